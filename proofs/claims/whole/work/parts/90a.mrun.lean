/-! WORK is done: the model. -/
theorem inc_4 {n : Nat} : nI n + Int32.ofInt 4 = nI (n + 4) := by rw [← nI_add]; rfl
def PA (P : PL) (I : Nat → Nat → Int32) : Prop := ∀ j, j < P.m → I 124 (4 * j) = nI (P.k j) ∧ I 124 (4 * j + 1) = nI (P.a j) ∧ I 124 (4 * j + 2) = nI (if P.k j = 5 then 4 * P.b j else P.b j) ∧ I 124 (4 * j + 3) = nI (P.c j)
theorem PA.fr {P : PL} {I I' : Nat → Nat → Int32} (h : PA P I) (e : I' 124 = I 124) : PA P I' := by
  unfold PA at h ⊢
  rw [e]
  exact h
/-- the model: how the work stands -/
def RM (κ : CT) (l : LW) (P : PL) (R : RSt) (I : Nat → Nat → Int32) : Prop := PA P I ∧ MC κ I ∧ ML l I ∧ MR 126 κ R.1 I ∧ I 106 39 = nI R.2.1 ∧ I 106 40 = nI R.2.2.1 ∧ I 106 41 = nI R.2.2.2
def SF (I I' : Nat → Nat → Int32) : Prop := (∀ j, j ≠ 39 → j ≠ 40 → j ≠ 41 → I' 106 j = I 106 j) ∧ ∀ x, x ≠ 106 → x ≠ 121 → x ≠ 122 → x ≠ 126 → I' x = I x
theorem SF.rf {I : Nat → Nat → Int32} : SF I I := ⟨fun _ _ _ _ => rfl, fun _ _ _ _ _ => rfl⟩
theorem SF.tr {I I1 I2 : Nat → Nat → Int32} (h : SF I I1) (h2 : SF I1 I2) : SF I I2 := ⟨fun j a b c => (h2.1 j a b c).trans (h.1 j a b c), fun x a b c d => (h2.2 x a b c d).trans (h.2 x a b c d)⟩
theorem SF.mc {κ : CT} {I I' : Nat → Nat → Int32} (f : SF I I') (h : MC κ I) : MC κ I' := by
  unfold MC at h ⊢
  rw [f.1 22 (by decide) (by decide) (by decide), f.1 23 (by decide) (by decide) (by decide), f.1 24 (by decide) (by decide) (by decide), f.1 25 (by decide) (by decide) (by decide), f.2 113 (by decide) (by decide) (by decide) (by decide), f.2 114 (by decide) (by decide) (by decide) (by decide), f.2 115 (by decide) (by decide) (by decide) (by decide), f.2 116 (by decide) (by decide) (by decide) (by decide)]
  exact h
theorem SF.ml {l : LW} {I I' : Nat → Nat → Int32} (f : SF I I') (h : ML l I) : ML l I' := h.fr9 (f.1 32 (by decide) (by decide) (by decide)) (f.2 119 (by decide) (by decide) (by decide) (by decide)) (f.2 120 (by decide) (by decide) (by decide) (by decide))
theorem RM.mk {κ : CT} {l : LW} {P : PL} {R R2 : RSt} {I I' : Nat → Nat → Int32} (h : RM κ l P R I) (f : SF I I') (mr : MR 126 κ R2.1 I') (e5 : I' 106 39 = nI R2.2.1) (e6 : I' 106 40 = nI R2.2.2.1) (e7 : I' 106 41 = nI R2.2.2.2) : RM κ l P R2 I' := ⟨h.1.fr (f.2 124 (by decide) (by decide) (by decide) (by decide)), f.mc h.2.1, f.ml h.2.2.1, mr, e5, e6, e7⟩
theorem SF.dn {I I' : Nat → Nat → Int32} {j : Nat} {v : Int32} (e : I' = wr I 106 j v) (hj : j = 39 ∨ j = 40 ∨ j = 41) : SF I I' := by
  subst e
  exact ⟨fun i a b c => wr_ne (Or.inr (by omega)), fun x a _ _ _ => wr_row a⟩
theorem MR.dn {κ : CT} {η : HS} {I I' : Nat → Nat → Int32} (h : MR 126 κ η I) (e : I' 126 = I 126) : MR 126 κ η I' := h.fr e
def CMr (D : Nat) (κ : CT) (l : LW) (P : PL) (o : Nat) (F : Nat → Nat → RSt → RSt) : Prop := ∀ (d : Nat) (I : Nat → Nat → Int32) (J : Nat → Nat → Int64) (f t : Nat) (R : RSt), D ≤ d → t ≤ P.m → blk κ P o f t → f ≤ t → RI2 κ l R → RM κ l P R I → RU d 211 [.ref 106, .int (nI (4 * f)), .int (nI (4 * t))] I J (fun I' => RM κ l P (F f t R) I' ∧ SF I I' ∧ RI2 κ l (F f t R))
def RMI (κ : CT) (l : LW) (P : PL) (sub : Nat → Nat → RSt → RSt) (f0 t : Nat) (R0 : RSt) (I : Nat → Nat → Int32) (i f : Nat) (R : RSt) (M : Nat → Nat → Int32) : Prop := RM κ l P R M ∧ SF I M ∧ RI2 κ l R ∧ f0 ≤ f ∧ i ≤ f ∧ f ≤ t ∧ gsL sub κ l P (150 - i) f t R = gsL sub κ l P 150 f0 t R0
theorem RMI.fin {κ : CT} {l : LW} {P : PL} {sub : Nat → Nat → RSt → RSt} {f0 t i f : Nat} {R0 R : RSt} {I M : Nat → Nat → Int32} (h : RMI κ l P sub f0 t R0 I i f R M) (e : ¬ (f < t ∧ R.2.1 < 200)) : RM κ l P (gsL sub κ l P 150 f0 t R0) M ∧ SF I M ∧ RI2 κ l (gsL sub κ l P 150 f0 t R0) := by
  obtain ⟨h1, h2, h3, h4, h5, h6, h7⟩ := h
  rw [gsL_end e] at h7
  rw [← h7]
  exact ⟨h1, h2, h3⟩
def RQI (κ : CT) (l : LW) (P : PL) (F : RSt → RSt) (n : Nat) (R0 : RSt) (I : Nat → Nat → Int32) (i : Nat) (R : RSt) (M : Nat → Nat → Int32) : Prop := RM κ l P R M ∧ SF I M ∧ RI2 κ l R ∧ i ≤ n ∧ itn F (n - i) R = itn F n R0
theorem RQI.fin {κ : CT} {l : LW} {P : PL} {F : RSt → RSt} {n i : Nat} {R0 R : RSt} {I M : Nat → Nat → Int32} (h : RQI κ l P F n R0 I i R M) (hf : ∀ R : RSt, 200 ≤ R.2.1 → F R = R) (e : n ≤ i ∨ 200 ≤ R.2.1) : RM κ l P (itn F n R0) M ∧ SF I M ∧ RI2 κ l (itn F n R0) := by
  obtain ⟨h1, h2, h3, h4, h5⟩ := h
  have z : itn F (n - i) R = R := by
    rcases e with e | e
    · rw [show n - i = 0 by omega]; rfl
    · exact itn_full hf _ R e
  rw [← h5, z]
  exact ⟨h1, h2, h3⟩
theorem RQI.next {κ : CT} {l : LW} {P : PL} {F : RSt → RSt} {n i : Nat} {R0 R : RSt} {I M M2 : Nat → Nat → Int32} (h : RQI κ l P F n R0 I i R M) (hi : i < n) (rc : RM κ l P (F R) M2) (rf : SF M M2) (ri : RI2 κ l (F R)) : RQI κ l P F n R0 I (i + 1) (F R) M2 := by
  obtain ⟨h1, h2, h3, h4, h5⟩ := h
  refine ⟨rc, h2.tr rf, ri, hi, ?_⟩
  rw [← h5, show n - i = n - (i + 1) + 1 by omega]
  rfl
theorem r_X11_goesSteps_0 : RW M_X11_goesSteps 0 (.iload_n 1) 1 0 0 1 := ⟨rfl, rfl⟩
theorem r_X11_goesSteps_1 : RW M_X11_goesSteps 1 (.istore_n 3) 1 0 0 2 := ⟨rfl, rfl⟩
theorem r_X11_goesSteps_2 : RW M_X11_goesSteps 2 (.iload_n 3) 1 0 4 3 := ⟨rfl, rfl⟩
theorem r_X11_goesSteps_3 : RW M_X11_goesSteps 3 (.iload_n 2) 1 0 0 4 := ⟨rfl, rfl⟩
theorem r_X11_goesSteps_4 : RW M_X11_goesSteps 4 (.if_icmp .ge 156) 3 160 0 7 := ⟨rfl, rfl⟩
theorem r_X11_goesSteps_7 : RW M_X11_goesSteps 7 (.aload_n 0) 1 0 0 8 := ⟨rfl, rfl⟩
theorem r_X11_goesSteps_8 : RW M_X11_goesSteps 8 (.getfield 325) 3 11 39 11 := ⟨rfl, rfl⟩
theorem r_X11_goesSteps_11 : RW M_X11_goesSteps 11 (.sipush 200) 3 0 0 14 := ⟨rfl, rfl⟩
theorem r_X11_goesSteps_14 : RW M_X11_goesSteps 14 (.if_icmp .ge 146) 3 160 0 17 := ⟨rfl, rfl⟩
theorem r_X11_goesSteps_17 : RW M_X11_goesSteps 17 (.aload_n 0) 1 0 0 18 := ⟨rfl, rfl⟩
theorem r_X11_goesSteps_18 : RW M_X11_goesSteps 18 (.dup) 1 0 0 19 := ⟨rfl, rfl⟩
theorem r_X11_goesSteps_19 : RW M_X11_goesSteps 19 (.getfield 325) 3 11 39 22 := ⟨rfl, rfl⟩
theorem r_X11_goesSteps_22 : RW M_X11_goesSteps 22 (.iconst 1) 1 0 0 23 := ⟨rfl, rfl⟩
theorem r_X11_goesSteps_23 : RW M_X11_goesSteps 23 (.iadd) 1 0 0 24 := ⟨rfl, rfl⟩
theorem r_X11_goesSteps_24 : RW M_X11_goesSteps 24 (.putfield 325) 3 11 39 27 := ⟨rfl, rfl⟩
theorem r_X11_goesSteps_27 : RW M_X11_goesSteps 27 (.aload_n 0) 1 0 0 28 := ⟨rfl, rfl⟩
theorem r_X11_goesSteps_28 : RW M_X11_goesSteps 28 (.getfield 68) 3 11 35 31 := ⟨rfl, rfl⟩
theorem r_X11_goesSteps_31 : RW M_X11_goesSteps 31 (.iload_n 3) 1 0 0 32 := ⟨rfl, rfl⟩
theorem r_X11_goesSteps_32 : RW M_X11_goesSteps 32 (.iaload) 1 0 0 33 := ⟨rfl, rfl⟩
theorem r_X11_goesSteps_33 : RW M_X11_goesSteps 33 (.iconst 5) 1 0 0 34 := ⟨rfl, rfl⟩
theorem r_X11_goesSteps_34 : RW M_X11_goesSteps 34 (.if_icmp .ne 60) 3 94 0 37 := ⟨rfl, rfl⟩
theorem r_X11_goesSteps_37 : RW M_X11_goesSteps 37 (.aload_n 0) 1 0 0 38 := ⟨rfl, rfl⟩
theorem r_X11_goesSteps_38 : RW M_X11_goesSteps 38 (.getfield 68) 3 11 35 41 := ⟨rfl, rfl⟩
theorem r_X11_goesSteps_41 : RW M_X11_goesSteps 41 (.iload_n 3) 1 0 0 42 := ⟨rfl, rfl⟩
theorem r_X11_goesSteps_42 : RW M_X11_goesSteps 42 (.iconst 2) 1 0 0 43 := ⟨rfl, rfl⟩
theorem r_X11_goesSteps_43 : RW M_X11_goesSteps 43 (.iadd) 1 0 0 44 := ⟨rfl, rfl⟩
theorem r_X11_goesSteps_44 : RW M_X11_goesSteps 44 (.iaload) 1 0 0 45 := ⟨rfl, rfl⟩
theorem r_X11_goesSteps_45 : RW M_X11_goesSteps 45 (.istore 4) 2 0 0 47 := ⟨rfl, rfl⟩
theorem r_X11_goesSteps_47 : RW M_X11_goesSteps 47 (.iconst 0) 1 0 0 48 := ⟨rfl, rfl⟩
theorem r_X11_goesSteps_48 : RW M_X11_goesSteps 48 (.istore 5) 2 0 0 50 := ⟨rfl, rfl⟩
theorem r_X11_goesSteps_50 : RW M_X11_goesSteps 50 (.iload 5) 2 0 0 52 := ⟨rfl, rfl⟩
theorem r_X11_goesSteps_52 : RW M_X11_goesSteps 52 (.aload_n 0) 1 0 0 53 := ⟨rfl, rfl⟩
theorem r_X11_goesSteps_53 : RW M_X11_goesSteps 53 (.getfield 68) 3 11 35 56 := ⟨rfl, rfl⟩
theorem r_X11_goesSteps_56 : RW M_X11_goesSteps 56 (.iload_n 3) 1 0 0 57 := ⟨rfl, rfl⟩
theorem r_X11_goesSteps_57 : RW M_X11_goesSteps 57 (.iconst 1) 1 0 0 58 := ⟨rfl, rfl⟩
theorem r_X11_goesSteps_58 : RW M_X11_goesSteps 58 (.iadd) 1 0 0 59 := ⟨rfl, rfl⟩
theorem r_X11_goesSteps_59 : RW M_X11_goesSteps 59 (.iaload) 1 0 0 60 := ⟨rfl, rfl⟩
theorem r_X11_goesSteps_60 : RW M_X11_goesSteps 60 (.if_icmp .ge 28) 3 88 0 63 := ⟨rfl, rfl⟩
theorem r_X11_goesSteps_63 : RW M_X11_goesSteps 63 (.aload_n 0) 1 0 0 64 := ⟨rfl, rfl⟩
theorem r_X11_goesSteps_64 : RW M_X11_goesSteps 64 (.getfield 325) 3 11 39 67 := ⟨rfl, rfl⟩
theorem r_X11_goesSteps_67 : RW M_X11_goesSteps 67 (.sipush 200) 3 0 0 70 := ⟨rfl, rfl⟩
theorem r_X11_goesSteps_70 : RW M_X11_goesSteps 70 (.if_icmp .ge 18) 3 88 0 73 := ⟨rfl, rfl⟩
theorem r_X11_goesSteps_73 : RW M_X11_goesSteps 73 (.aload_n 0) 1 0 0 74 := ⟨rfl, rfl⟩
theorem r_X11_goesSteps_74 : RW M_X11_goesSteps 74 (.iload_n 3) 1 0 0 75 := ⟨rfl, rfl⟩
theorem r_X11_goesSteps_75 : RW M_X11_goesSteps 75 (.iconst 4) 1 0 0 76 := ⟨rfl, rfl⟩
theorem r_X11_goesSteps_76 : RW M_X11_goesSteps 76 (.iadd) 1 0 0 77 := ⟨rfl, rfl⟩
theorem r_X11_goesSteps_77 : RW M_X11_goesSteps 77 (.iload 4) 2 0 0 79 := ⟨rfl, rfl⟩
theorem r_X11_goesSteps_79 : RW M_X11_goesSteps 79 (.invokevirtual 334) 3 211 0 82 := ⟨rfl, rfl⟩
theorem r_X11_goesSteps_82 : RW M_X11_goesSteps 82 (.iinc 5 1) 3 0 0 85 := ⟨rfl, rfl⟩
theorem r_X11_goesSteps_85 : RW M_X11_goesSteps 85 (.goto (-35)) 3 50 0 88 := ⟨rfl, rfl⟩
theorem r_X11_goesSteps_88 : RW M_X11_goesSteps 88 (.iload 4) 2 0 0 90 := ⟨rfl, rfl⟩
theorem r_X11_goesSteps_90 : RW M_X11_goesSteps 90 (.istore_n 3) 1 0 0 91 := ⟨rfl, rfl⟩
theorem r_X11_goesSteps_91 : RW M_X11_goesSteps 91 (.goto (-89)) 3 2 0 94 := ⟨rfl, rfl⟩
theorem r_X11_goesSteps_94 : RW M_X11_goesSteps 94 (.aload_n 0) 1 0 0 95 := ⟨rfl, rfl⟩
theorem r_X11_goesSteps_95 : RW M_X11_goesSteps 95 (.aload_n 0) 1 0 0 96 := ⟨rfl, rfl⟩
theorem r_X11_goesSteps_96 : RW M_X11_goesSteps 96 (.getfield 68) 3 11 35 99 := ⟨rfl, rfl⟩
theorem r_X11_goesSteps_99 : RW M_X11_goesSteps 99 (.iload_n 3) 1 0 0 100 := ⟨rfl, rfl⟩
theorem r_X11_goesSteps_100 : RW M_X11_goesSteps 100 (.iaload) 1 0 0 101 := ⟨rfl, rfl⟩
theorem r_X11_goesSteps_101 : RW M_X11_goesSteps 101 (.aload_n 0) 1 0 0 102 := ⟨rfl, rfl⟩
theorem r_X11_goesSteps_102 : RW M_X11_goesSteps 102 (.getfield 68) 3 11 35 105 := ⟨rfl, rfl⟩
theorem r_X11_goesSteps_105 : RW M_X11_goesSteps 105 (.iload_n 3) 1 0 0 106 := ⟨rfl, rfl⟩
theorem r_X11_goesSteps_106 : RW M_X11_goesSteps 106 (.iconst 1) 1 0 0 107 := ⟨rfl, rfl⟩
theorem r_X11_goesSteps_107 : RW M_X11_goesSteps 107 (.iadd) 1 0 0 108 := ⟨rfl, rfl⟩
theorem r_X11_goesSteps_108 : RW M_X11_goesSteps 108 (.iaload) 1 0 0 109 := ⟨rfl, rfl⟩
theorem r_X11_goesSteps_109 : RW M_X11_goesSteps 109 (.aload_n 0) 1 0 0 110 := ⟨rfl, rfl⟩
theorem r_X11_goesSteps_110 : RW M_X11_goesSteps 110 (.getfield 68) 3 11 35 113 := ⟨rfl, rfl⟩
theorem r_X11_goesSteps_113 : RW M_X11_goesSteps 113 (.iload_n 3) 1 0 0 114 := ⟨rfl, rfl⟩
theorem r_X11_goesSteps_114 : RW M_X11_goesSteps 114 (.iconst 2) 1 0 0 115 := ⟨rfl, rfl⟩
theorem r_X11_goesSteps_115 : RW M_X11_goesSteps 115 (.iadd) 1 0 0 116 := ⟨rfl, rfl⟩
theorem r_X11_goesSteps_116 : RW M_X11_goesSteps 116 (.iaload) 1 0 0 117 := ⟨rfl, rfl⟩
theorem r_X11_goesSteps_117 : RW M_X11_goesSteps 117 (.aload_n 0) 1 0 0 118 := ⟨rfl, rfl⟩
theorem r_X11_goesSteps_118 : RW M_X11_goesSteps 118 (.getfield 68) 3 11 35 121 := ⟨rfl, rfl⟩
theorem r_X11_goesSteps_121 : RW M_X11_goesSteps 121 (.iload_n 3) 1 0 0 122 := ⟨rfl, rfl⟩
theorem r_X11_goesSteps_122 : RW M_X11_goesSteps 122 (.iconst 3) 1 0 0 123 := ⟨rfl, rfl⟩
theorem r_X11_goesSteps_123 : RW M_X11_goesSteps 123 (.iadd) 1 0 0 124 := ⟨rfl, rfl⟩
theorem r_X11_goesSteps_124 : RW M_X11_goesSteps 124 (.iaload) 1 0 0 125 := ⟨rfl, rfl⟩
theorem r_X11_goesSteps_125 : RW M_X11_goesSteps 125 (.invokevirtual 337) 3 232 0 128 := ⟨rfl, rfl⟩
theorem r_X11_goesSteps_128 : RW M_X11_goesSteps 128 (.ifCond .eq 16) 3 144 0 131 := ⟨rfl, rfl⟩
theorem r_X11_goesSteps_131 : RW M_X11_goesSteps 131 (.aload_n 0) 1 0 0 132 := ⟨rfl, rfl⟩
theorem r_X11_goesSteps_132 : RW M_X11_goesSteps 132 (.dup) 1 0 0 133 := ⟨rfl, rfl⟩
theorem r_X11_goesSteps_133 : RW M_X11_goesSteps 133 (.getfield 328) 3 11 40 136 := ⟨rfl, rfl⟩
theorem r_X11_goesSteps_136 : RW M_X11_goesSteps 136 (.iconst 1) 1 0 0 137 := ⟨rfl, rfl⟩
theorem r_X11_goesSteps_137 : RW M_X11_goesSteps 137 (.iadd) 1 0 0 138 := ⟨rfl, rfl⟩
theorem r_X11_goesSteps_138 : RW M_X11_goesSteps 138 (.putfield 328) 3 11 40 141 := ⟨rfl, rfl⟩
theorem r_X11_goesSteps_141 : RW M_X11_goesSteps 141 (.goto 13) 3 154 0 144 := ⟨rfl, rfl⟩
theorem r_X11_goesSteps_144 : RW M_X11_goesSteps 144 (.aload_n 0) 1 0 0 145 := ⟨rfl, rfl⟩
theorem r_X11_goesSteps_145 : RW M_X11_goesSteps 145 (.dup) 1 0 0 146 := ⟨rfl, rfl⟩
theorem r_X11_goesSteps_146 : RW M_X11_goesSteps 146 (.getfield 331) 3 11 41 149 := ⟨rfl, rfl⟩
theorem r_X11_goesSteps_149 : RW M_X11_goesSteps 149 (.iconst 1) 1 0 0 150 := ⟨rfl, rfl⟩
theorem r_X11_goesSteps_150 : RW M_X11_goesSteps 150 (.iadd) 1 0 0 151 := ⟨rfl, rfl⟩
theorem r_X11_goesSteps_151 : RW M_X11_goesSteps 151 (.putfield 331) 3 11 41 154 := ⟨rfl, rfl⟩
theorem r_X11_goesSteps_154 : RW M_X11_goesSteps 154 (.iinc 3 4) 3 0 0 157 := ⟨rfl, rfl⟩
theorem r_X11_goesSteps_157 : RW M_X11_goesSteps 157 (.goto (-155)) 3 2 0 160 := ⟨rfl, rfl⟩
theorem r_X11_goesSteps_160 : RW M_X11_goesSteps 160 (.return_) 1 0 0 161 := ⟨rfl, rfl⟩
theorem r_X11_isDone_0 : RW M_X11_isDone 0 (.iload_n 1) 1 0 0 1 := ⟨rfl, rfl⟩
theorem r_X11_isDone_1 : RW M_X11_isDone 1 (.ifCond .ne 10) 3 11 0 4 := ⟨rfl, rfl⟩
theorem r_X11_isDone_4 : RW M_X11_isDone 4 (.aload_n 0) 1 0 0 5 := ⟨rfl, rfl⟩
theorem r_X11_isDone_5 : RW M_X11_isDone 5 (.iload_n 2) 1 0 0 6 := ⟨rfl, rfl⟩
theorem r_X11_isDone_6 : RW M_X11_isDone 6 (.iload_n 3) 1 0 0 7 := ⟨rfl, rfl⟩
theorem r_X11_isDone_7 : RW M_X11_isDone 7 (.invokevirtual 379) 3 227 0 10 := ⟨rfl, rfl⟩
theorem r_X11_isDone_10 : RW M_X11_isDone 10 (.ireturn) 1 0 0 11 := ⟨rfl, rfl⟩
theorem r_X11_isDone_11 : RW M_X11_isDone 11 (.iload_n 1) 1 0 0 12 := ⟨rfl, rfl⟩
theorem r_X11_isDone_12 : RW M_X11_isDone 12 (.iconst 1) 1 0 0 13 := ⟨rfl, rfl⟩
theorem r_X11_isDone_13 : RW M_X11_isDone 13 (.if_icmp .ne 12) 3 25 0 16 := ⟨rfl, rfl⟩
theorem r_X11_isDone_16 : RW M_X11_isDone 16 (.aload_n 0) 1 0 0 17 := ⟨rfl, rfl⟩
theorem r_X11_isDone_17 : RW M_X11_isDone 17 (.iload_n 2) 1 0 0 18 := ⟨rfl, rfl⟩
theorem r_X11_isDone_18 : RW M_X11_isDone 18 (.iload_n 3) 1 0 0 19 := ⟨rfl, rfl⟩
theorem r_X11_isDone_19 : RW M_X11_isDone 19 (.iload 4) 2 0 0 21 := ⟨rfl, rfl⟩
theorem r_X11_isDone_21 : RW M_X11_isDone 21 (.invokevirtual 383) 3 229 0 24 := ⟨rfl, rfl⟩
theorem r_X11_isDone_24 : RW M_X11_isDone 24 (.ireturn) 1 0 0 25 := ⟨rfl, rfl⟩
theorem r_X11_isDone_25 : RW M_X11_isDone 25 (.iload_n 1) 1 0 0 26 := ⟨rfl, rfl⟩
theorem r_X11_isDone_26 : RW M_X11_isDone 26 (.iconst 2) 1 0 0 27 := ⟨rfl, rfl⟩
theorem r_X11_isDone_27 : RW M_X11_isDone 27 (.if_icmp .ne 12) 3 39 0 30 := ⟨rfl, rfl⟩
theorem r_X11_isDone_30 : RW M_X11_isDone 30 (.aload_n 0) 1 0 0 31 := ⟨rfl, rfl⟩
theorem r_X11_isDone_31 : RW M_X11_isDone 31 (.iload_n 2) 1 0 0 32 := ⟨rfl, rfl⟩
theorem r_X11_isDone_32 : RW M_X11_isDone 32 (.iload_n 3) 1 0 0 33 := ⟨rfl, rfl⟩
theorem r_X11_isDone_33 : RW M_X11_isDone 33 (.iload 4) 2 0 0 35 := ⟨rfl, rfl⟩
theorem r_X11_isDone_35 : RW M_X11_isDone 35 (.invokevirtual 386) 3 230 0 38 := ⟨rfl, rfl⟩
theorem r_X11_isDone_38 : RW M_X11_isDone 38 (.ireturn) 1 0 0 39 := ⟨rfl, rfl⟩
theorem r_X11_isDone_39 : RW M_X11_isDone 39 (.iload_n 1) 1 0 0 40 := ⟨rfl, rfl⟩
theorem r_X11_isDone_40 : RW M_X11_isDone 40 (.iconst 3) 1 0 0 41 := ⟨rfl, rfl⟩
theorem r_X11_isDone_41 : RW M_X11_isDone 41 (.if_icmp .ne 9) 3 50 0 44 := ⟨rfl, rfl⟩
theorem r_X11_isDone_44 : RW M_X11_isDone 44 (.aload_n 0) 1 0 0 45 := ⟨rfl, rfl⟩
theorem r_X11_isDone_45 : RW M_X11_isDone 45 (.iload_n 2) 1 0 0 46 := ⟨rfl, rfl⟩
theorem r_X11_isDone_46 : RW M_X11_isDone 46 (.invokevirtual 389) 3 231 0 49 := ⟨rfl, rfl⟩
theorem r_X11_isDone_49 : RW M_X11_isDone 49 (.ireturn) 1 0 0 50 := ⟨rfl, rfl⟩
theorem r_X11_isDone_50 : RW M_X11_isDone 50 (.aload_n 0) 1 0 0 51 := ⟨rfl, rfl⟩
theorem r_X11_isDone_51 : RW M_X11_isDone 51 (.getfield 74) 3 11 43 54 := ⟨rfl, rfl⟩
theorem r_X11_isDone_54 : RW M_X11_isDone 54 (.bipush 30) 2 0 0 56 := ⟨rfl, rfl⟩
theorem r_X11_isDone_56 : RW M_X11_isDone 56 (.iaload) 1 0 0 57 := ⟨rfl, rfl⟩
theorem r_X11_isDone_57 : RW M_X11_isDone 57 (.sipush 400) 3 0 0 60 := ⟨rfl, rfl⟩
theorem r_X11_isDone_60 : RW M_X11_isDone 60 (.if_icmp .lt 5) 3 65 0 63 := ⟨rfl, rfl⟩
theorem r_X11_isDone_63 : RW M_X11_isDone 63 (.iconst 0) 1 0 0 64 := ⟨rfl, rfl⟩
theorem r_X11_isDone_64 : RW M_X11_isDone 64 (.ireturn) 1 0 0 65 := ⟨rfl, rfl⟩
theorem r_X11_isDone_65 : RW M_X11_isDone 65 (.aload_n 0) 1 0 0 66 := ⟨rfl, rfl⟩
theorem r_X11_isDone_66 : RW M_X11_isDone 66 (.getfield 74) 3 11 43 69 := ⟨rfl, rfl⟩
theorem r_X11_isDone_69 : RW M_X11_isDone 69 (.bipush 30) 2 0 0 71 := ⟨rfl, rfl⟩
theorem r_X11_isDone_71 : RW M_X11_isDone 71 (.dup2) 1 0 0 72 := ⟨rfl, rfl⟩
theorem r_X11_isDone_72 : RW M_X11_isDone 72 (.iaload) 1 0 0 73 := ⟨rfl, rfl⟩
theorem r_X11_isDone_73 : RW M_X11_isDone 73 (.iconst 1) 1 0 0 74 := ⟨rfl, rfl⟩
theorem r_X11_isDone_74 : RW M_X11_isDone 74 (.iadd) 1 0 0 75 := ⟨rfl, rfl⟩
theorem r_X11_isDone_75 : RW M_X11_isDone 75 (.iastore) 1 0 0 76 := ⟨rfl, rfl⟩
theorem r_X11_isDone_76 : RW M_X11_isDone 76 (.iconst 1) 1 0 0 77 := ⟨rfl, rfl⟩
theorem r_X11_isDone_77 : RW M_X11_isDone 77 (.ireturn) 1 0 0 78 := ⟨rfl, rfl⟩
theorem m_do0 {d : Nat} {I : Nat → Nat → Int32} {J : Nat → Nat → Int64} {κ : CT} {l : LW} {η : HS} (cb : CB κ) (mc_ : MC κ I) (ml_ : ML l I) (lb : LB l) (mr : MR 126 κ η I) (hi : HI κ l η) {a b : Nat} {w : Int32} (ha : a < κ.nc) (hb2 : b < κ.nb)  (hd : 12 ≤ d) : RI d 232 [.ref 106, .int (nI 0), .int (nI a), .int (nI b), .int w] I J (fun v I' => v = bI (qCall η a b) ∧ MR 126 κ (if qCall η a b = true then hCall η a b else η) I' ∧ ∀ x, x ≠ 121 → x ≠ 122 → x ≠ 126 → I' x = I x) := by
  refine RI.in (d0 := 11) hd mt_232 (Nat.le_of_ble_eq_true rfl) (fun d' hd' => ?_)
  show EV none M_X11_isDone d' 0 [(0, .ref 106), (1, .int (nI 0)), (2, .int (nI a)), (3, .int (nI b)), (4, .int w)] [] (hp I J) _
  refine EV.l (lv' := [(0, _), (1, _), (2, _), (3, _), (4, _)]) r_X11_isDone_0 rfl ?_
  refine EV.n0_ne r_X11_isDone_1 (fun h1 => ?_) (fun h1 => ?_)
  · omega
  · -- 1 f
    refine EV.l (lv' := [(0, _), (1, _), (2, _), (3, _), (4, _)]) r_X11_isDone_4 rfl ?_
    refine EV.l (lv' := [(0, _), (1, _), (2, _), (3, _), (4, _)]) r_X11_isDone_5 rfl ?_
    refine EV.l (lv' := [(0, _), (1, _), (2, _), (3, _), (4, _)]) r_X11_isDone_6 rfl ?_
    refine EV.ci r_X11_isDone_7 (aV2 mt_227 la_106) (m_called cb mr hi.1 ha hb2 (by omega)) (fun v2 I2 h2 => ?_)
    obtain ⟨e, mr2, f2⟩ := h2
    subst e
    exact EV.ri r_X11_isDone_10 (⟨rfl, mr2, fun x _ _ p => f2 x p⟩) ret_b
theorem m_do1 {d : Nat} {I : Nat → Nat → Int32} {J : Nat → Nat → Int64} {κ : CT} {l : LW} {η : HS} (cb : CB κ) (mc_ : MC κ I) (ml_ : ML l I) (lb : LB l) (mr : MR 126 κ η I) (hi : HI κ l η) {a b c : Nat} (ha : a < κ.nc) (hb2 : b < κ.nb) (hc2 : c ≤ 9)  (hd : 12 ≤ d) : RI d 232 [.ref 106, .int (nI 1), .int (nI a), .int (nI b), .int (nI c)] I J (fun v I' => v = bI (canL η a b c) ∧ MR 126 κ (if canL η a b c = true then hLead η a b c else η) I' ∧ ∀ x, x ≠ 121 → x ≠ 122 → x ≠ 126 → I' x = I x) := by
  refine RI.in (d0 := 11) hd mt_232 (Nat.le_of_ble_eq_true rfl) (fun d' hd' => ?_)
  show EV none M_X11_isDone d' 0 [(0, .ref 106), (1, .int (nI 1)), (2, .int (nI a)), (3, .int (nI b)), (4, .int (nI c))] [] (hp I J) _
  refine EV.l (lv' := [(0, _), (1, _), (2, _), (3, _), (4, _)]) r_X11_isDone_0 rfl ?_
  refine EV.n0_ne r_X11_isDone_1 (fun h1 => ?_) (fun h1 => ?_)
  · -- 1 t
    refine EV.l (lv' := [(0, _), (1, _), (2, _), (3, _), (4, _)]) r_X11_isDone_11 rfl ?_
    refine EV.o r_X11_isDone_12 (icN (1) (v := 1)) ?_
    refine EV.n2_ne r_X11_isDone_13 (fun h13 => ?_) (fun h13 => ?_)
    · omega
    · -- 13 f
      refine EV.l (lv' := [(0, _), (1, _), (2, _), (3, _), (4, _)]) r_X11_isDone_16 rfl ?_
      refine EV.l (lv' := [(0, _), (1, _), (2, _), (3, _), (4, _)]) r_X11_isDone_17 rfl ?_
      refine EV.l (lv' := [(0, _), (1, _), (2, _), (3, _), (4, _)]) r_X11_isDone_18 rfl ?_
      refine EV.l (lv' := [(0, _), (1, _), (2, _), (3, _), (4, _)]) r_X11_isDone_19 rfl ?_
      refine EV.ci r_X11_isDone_21 (aV3 mt_229 la_106) (m_led cb mr hi.1 ha hb2 (by omega) (by omega)) (fun v2 I2 h2 => ?_)
      obtain ⟨e, mr2, f2⟩ := h2
      subst e
      exact EV.ri r_X11_isDone_24 (⟨rfl, mr2, fun x _ _ p => f2 x p⟩) ret_b
  · omega
theorem m_do2 {d : Nat} {I : Nat → Nat → Int32} {J : Nat → Nat → Int64} {κ : CT} {l : LW} {η : HS} (cb : CB κ) (mc_ : MC κ I) (ml_ : ML l I) (lb : LB l) (mr : MR 126 κ η I) (hi : HI κ l η) {a b c : Nat} (ha : a < κ.nc) (hb2 : b < κ.ns) (hc2 : c ≤ 9)  (hd : 12 ≤ d) : RI d 232 [.ref 106, .int (nI 2), .int (nI a), .int (nI b), .int (nI c)] I J (fun v I' => v = bI (qPut κ η a b c) ∧ MR 126 κ (if qPut κ η a b c = true then hPut η b c else η) I' ∧ ∀ x, x ≠ 121 → x ≠ 122 → x ≠ 126 → I' x = I x) := by
  refine RI.in (d0 := 11) hd mt_232 (Nat.le_of_ble_eq_true rfl) (fun d' hd' => ?_)
  show EV none M_X11_isDone d' 0 [(0, .ref 106), (1, .int (nI 2)), (2, .int (nI a)), (3, .int (nI b)), (4, .int (nI c))] [] (hp I J) _
  refine EV.l (lv' := [(0, _), (1, _), (2, _), (3, _), (4, _)]) r_X11_isDone_0 rfl ?_
  refine EV.n0_ne r_X11_isDone_1 (fun h1 => ?_) (fun h1 => ?_)
  · -- 1 t
    refine EV.l (lv' := [(0, _), (1, _), (2, _), (3, _), (4, _)]) r_X11_isDone_11 rfl ?_
    refine EV.o r_X11_isDone_12 (icN (1) (v := 1)) ?_
    refine EV.n2_ne r_X11_isDone_13 (fun h13 => ?_) (fun h13 => ?_)
    · -- 13 t
      refine EV.l (lv' := [(0, _), (1, _), (2, _), (3, _), (4, _)]) r_X11_isDone_25 rfl ?_
      refine EV.o r_X11_isDone_26 (icN (2) (v := 2)) ?_
      refine EV.n2_ne r_X11_isDone_27 (fun h27 => ?_) (fun h27 => ?_)
      · omega
      · -- 27 f
        refine EV.l (lv' := [(0, _), (1, _), (2, _), (3, _), (4, _)]) r_X11_isDone_30 rfl ?_
        refine EV.l (lv' := [(0, _), (1, _), (2, _), (3, _), (4, _)]) r_X11_isDone_31 rfl ?_
        refine EV.l (lv' := [(0, _), (1, _), (2, _), (3, _), (4, _)]) r_X11_isDone_32 rfl ?_
        refine EV.l (lv' := [(0, _), (1, _), (2, _), (3, _), (4, _)]) r_X11_isDone_33 rfl ?_
        refine EV.ci r_X11_isDone_35 (aV3 mt_230 la_106) (m_put cb mr hi.1 mc_ ha hb2 (by omega) (by omega)) (fun v2 I2 h2 => ?_)
        obtain ⟨e, mr2, f2⟩ := h2
        subst e
        exact EV.ri r_X11_isDone_38 (⟨rfl, mr2, fun x _ _ p => f2 x p⟩) ret_b
    · omega
  · omega
theorem m_do3 {d : Nat} {I : Nat → Nat → Int32} {J : Nat → Nat → Int64} {κ : CT} {l : LW} {η : HS} (cb : CB κ) (mc_ : MC κ I) (ml_ : ML l I) (lb : LB l) (mr : MR 126 κ η I) (hi : HI κ l η) {a : Nat} {v w : Int32} (ha : a < κ.ns)  (hd : 12 ≤ d) : RI d 232 [.ref 106, .int (nI 3), .int (nI a), .int v, .int w] I J (fun v I' => v = bI (qNote κ η a) ∧ MR 126 κ (if qNote κ η a = true then hNote η a else η) I' ∧ ∀ x, x ≠ 121 → x ≠ 122 → x ≠ 126 → I' x = I x) := by
  refine RI.in (d0 := 11) hd mt_232 (Nat.le_of_ble_eq_true rfl) (fun d' hd' => ?_)
  show EV none M_X11_isDone d' 0 [(0, .ref 106), (1, .int (nI 3)), (2, .int (nI a)), (3, .int v), (4, .int w)] [] (hp I J) _
  refine EV.l (lv' := [(0, _), (1, _), (2, _), (3, _), (4, _)]) r_X11_isDone_0 rfl ?_
  refine EV.n0_ne r_X11_isDone_1 (fun h1 => ?_) (fun h1 => ?_)
  · -- 1 t
    refine EV.l (lv' := [(0, _), (1, _), (2, _), (3, _), (4, _)]) r_X11_isDone_11 rfl ?_
    refine EV.o r_X11_isDone_12 (icN (1) (v := 1)) ?_
    refine EV.n2_ne r_X11_isDone_13 (fun h13 => ?_) (fun h13 => ?_)
    · -- 13 t
      refine EV.l (lv' := [(0, _), (1, _), (2, _), (3, _), (4, _)]) r_X11_isDone_25 rfl ?_
      refine EV.o r_X11_isDone_26 (icN (2) (v := 2)) ?_
      refine EV.n2_ne r_X11_isDone_27 (fun h27 => ?_) (fun h27 => ?_)
      · -- 27 t
        refine EV.l (lv' := [(0, _), (1, _), (2, _), (3, _), (4, _)]) r_X11_isDone_39 rfl ?_
        refine EV.o r_X11_isDone_40 (icN (3) (v := 3)) ?_
        refine EV.n2_ne r_X11_isDone_41 (fun h41 => ?_) (fun h41 => ?_)
        · omega
        · -- 41 f
          refine EV.l (lv' := [(0, _), (1, _), (2, _), (3, _), (4, _)]) r_X11_isDone_44 rfl ?_
          refine EV.l (lv' := [(0, _), (1, _), (2, _), (3, _), (4, _)]) r_X11_isDone_45 rfl ?_
          refine EV.ci r_X11_isDone_46 (aV1 mt_231 la_106) (m_note cb mr hi.1 mc_ ml_ lb hi.2.1 ha (by omega)) (fun v2 I2 h2 => ?_)
          obtain ⟨e, mr2, f2⟩ := h2
          subst e
          exact EV.ri r_X11_isDone_49 (⟨rfl, mr2, fun x p1 p2 p => f2 x p p1 p2⟩) ret_b
      · omega
    · omega
  · omega
theorem m_do4 {d : Nat} {I : Nat → Nat → Int32} {J : Nat → Nat → Int64} {κ : CT} {l : LW} {η : HS} (cb : CB κ) (mc_ : MC κ I) (ml_ : ML l I) (lb : LB l) (mr : MR 126 κ η I) (hi : HI κ l η) {u v w : Int32}  (hd : 3 ≤ d) : RI d 232 [.ref 106, .int (nI 4), .int u, .int v, .int w] I J (fun v I' => v = bI (qMin η) ∧ MR 126 κ (if qMin η = true then hMin η else η) I' ∧ ∀ x, x ≠ 121 → x ≠ 122 → x ≠ 126 → I' x = I x) := by
  refine RI.in (d0 := 2) hd mt_232 (Nat.le_of_ble_eq_true rfl) (fun d' hd' => ?_)
  have m4 := hi.2.2
  show EV none M_X11_isDone d' 0 [(0, .ref 106), (1, .int (nI 4)), (2, .int u), (3, .int v), (4, .int w)] [] (hp I J) _
  refine EV.l (lv' := [(0, _), (1, _), (2, _), (3, _), (4, _)]) r_X11_isDone_0 rfl ?_
  refine EV.n0_ne r_X11_isDone_1 (fun h1 => ?_) (fun h1 => ?_)
  · -- 1 t
    refine EV.l (lv' := [(0, _), (1, _), (2, _), (3, _), (4, _)]) r_X11_isDone_11 rfl ?_
    refine EV.o r_X11_isDone_12 (icN (1) (v := 1)) ?_
    refine EV.n2_ne r_X11_isDone_13 (fun h13 => ?_) (fun h13 => ?_)
    · -- 13 t
      refine EV.l (lv' := [(0, _), (1, _), (2, _), (3, _), (4, _)]) r_X11_isDone_25 rfl ?_
      refine EV.o r_X11_isDone_26 (icN (2) (v := 2)) ?_
      refine EV.n2_ne r_X11_isDone_27 (fun h27 => ?_) (fun h27 => ?_)
      · -- 27 t
        refine EV.l (lv' := [(0, _), (1, _), (2, _), (3, _), (4, _)]) r_X11_isDone_39 rfl ?_
        refine EV.o r_X11_isDone_40 (icN (3) (v := 3)) ?_
        refine EV.n2_ne r_X11_isDone_41 (fun h41 => ?_) (fun h41 => ?_)
        · -- 41 t
          refine EV.l (lv' := [(0, _), (1, _), (2, _), (3, _), (4, _)]) r_X11_isDone_50 rfl ?_
          refine EV.gR r_X11_isDone_51 la_106 ?_
          refine EV.o r_X11_isDone_54 (bpN (30) 30) ?_
          refine EV.iaN r_X11_isDone_56 la_126 (mr.mi) ?_
          refine EV.o r_X11_isDone_57 (spN (400) 400) ?_
          refine EV.n2_lt r_X11_isDone_60 (fun h60 => ?_) (fun h60 => ?_)
          · -- 60 t
            refine EV.l (lv' := [(0, _), (1, _), (2, _), (3, _), (4, _)]) r_X11_isDone_65 rfl ?_
            refine EV.gR r_X11_isDone_66 la_106 ?_
            refine EV.o r_X11_isDone_69 (bpN (30) 30) ?_
            refine EV.o r_X11_isDone_71 rfl ?_
            refine EV.iaN r_X11_isDone_72 la_126 (mr.mi) ?_
            refine EV.o r_X11_isDone_73 (icN (1) (v := 1)) ?_
            refine EV.o r_X11_isDone_74 iaddN ?_
            refine EV.iaSn r_X11_isDone_75 la_126 (fun I2 e2 => ?_)
            refine EV.o r_X11_isDone_76 (icN (1) (v := 1)) ?_
            exact EV.ri r_X11_isDone_77 (⟨by rw [show qMin η = true from decide_eq_true (by omega)]; rfl, by rw [if_pos (show qMin η = true from decide_eq_true (by omega)), e2]; exact mr.pmi cb, fun x _ _ p => by rw [e2]; exact wr_row p⟩)
          · -- 60 f
            refine EV.o r_X11_isDone_63 (icN (0) (v := 0)) ?_
            exact EV.ri r_X11_isDone_64 (⟨by rw [show qMin η = false from decide_eq_false (by omega)]; rfl, by rw [if_neg (by rw [show qMin η = false from decide_eq_false (by omega)]; decide)]; exact mr, fun x _ _ _ => rfl⟩)
        · omega
      · omega
    · omega
  · omega
