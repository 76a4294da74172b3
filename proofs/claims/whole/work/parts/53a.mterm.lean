/-! TERM and SPAN: the model. -/
theorem MR.ms {a n : Nat} {κ : CT} {l : LW} {η : HS} {I : Nat → Nat → Int32} (h : MR a κ η I) : MR a κ (ms κ l η n) I := h
def FRT (I I' : Nat → Nat → Int32) : Prop := (∀ x, x ≠ 106 → x ≠ 121 → x ≠ 122 → x ≠ 126 → I' x = I x) ∧ ∀ j, j ≠ 53 → I' 106 j = I 106 j
theorem FRT.rf {I : Nat → Nat → Int32} : FRT I I := ⟨fun _ _ _ _ _ => rfl, fun _ _ => rfl⟩
theorem FRT.tr {I I1 I2 : Nat → Nat → Int32} (h : FRT I I1) (h2 : FRT I1 I2) : FRT I I2 := ⟨fun x a b c e => (h2.1 x a b c e).trans (h.1 x a b c e), fun j hj => (h2.2 j hj).trans (h.2 j hj)⟩
theorem FRT.mc {κ : CT} {I I' : Nat → Nat → Int32} (f : FRT I I') (h : MC κ I) : MC κ I' := h.fr9 (fun j hj => f.2 j (fun e => by subst e; exact absurd hj (by decide))) (fun x h1 h2 => f.1 x (by omega) (by omega) (by omega) (by omega))
theorem FRT.ml {l : LW} {I I' : Nat → Nat → Int32} (f : FRT I I') (h : ML l I) : ML l I' := h.fr9 (f.2 32 (by decide)) (f.1 119 (by decide) (by decide) (by decide) (by decide)) (f.1 120 (by decide) (by decide) (by decide) (by decide))
theorem FRT.dr {I : Nat → Nat → Int32} {v : Int32} : FRT I (wr I 106 53 v) := ⟨fun x a _ _ _ => wr_row a, fun j hj => wr_ne (Or.inr hj)⟩
theorem FRT.s1 {I I' : Nat → Nat → Int32} (h : ∀ x, x ≠ 126 → I' x = I x) : FRT I I' := ⟨fun x _ _ _ e => h x e, fun j _ => by rw [h 106 (by decide)]⟩
theorem FRT.s3 {I I' : Nat → Nat → Int32} (h : ∀ x, x ≠ 126 → x ≠ 121 → x ≠ 122 → I' x = I x) : FRT I I' := ⟨fun x _ b c e => h x e b c, fun j _ => by rw [h 106 (by decide) (by decide) (by decide)]⟩
theorem FRT.m2 {I I' : Nat → Nat → Int32} (h : ∀ x, x ≠ 121 → x ≠ 122 → I' x = I x) : FRT I I' := ⟨fun x _ b c _ => h x b c, fun j _ => by rw [h 106 (by decide) (by decide)]⟩
theorem FRT.fr {I I1 I' : Nat → Nat → Int32} (f : FRT I1 I') (h0 : ∀ x, x ≠ 106 → I1 x = I x) (h1 : ∀ j, j ≠ 0 → I1 106 j = I 106 j) : FR I I' := FR.mtm (fun x a b c e => (f.1 x a b c e).trans (h0 x a)) (fun j h h2 => (f.2 j h2).trans (h1 j h))
theorem spC_b {κ : CT} {l : LW} {q n i x : Nat} {s : Int32} {η : HS} : spC κ l q n s η x (i + 1) = spC κ l q n s η x i + (doesC κ (spE κ l q n s η i) x).toNat := rfl
theorem r_X11_isTerm_0 : RW M_X11_isTerm 0 (.iload_n 0) 1 0 0 1 := ⟨rfl, rfl⟩
theorem r_X11_isTerm_1 : RW M_X11_isTerm 1 (.ifCond .lt 24) 3 25 0 4 := ⟨rfl, rfl⟩
theorem r_X11_isTerm_4 : RW M_X11_isTerm 4 (.iload_n 0) 1 0 0 5 := ⟨rfl, rfl⟩
theorem r_X11_isTerm_5 : RW M_X11_isTerm 5 (.bipush 16) 2 0 0 7 := ⟨rfl, rfl⟩
theorem r_X11_isTerm_7 : RW M_X11_isTerm 7 (.if_icmp .gt 18) 3 25 0 10 := ⟨rfl, rfl⟩
theorem r_X11_isTerm_10 : RW M_X11_isTerm 10 (.iload_n 1) 1 0 0 11 := ⟨rfl, rfl⟩
theorem r_X11_isTerm_11 : RW M_X11_isTerm 11 (.iconst 1) 1 0 0 12 := ⟨rfl, rfl⟩
theorem r_X11_isTerm_12 : RW M_X11_isTerm 12 (.if_icmp .lt 13) 3 25 0 15 := ⟨rfl, rfl⟩
theorem r_X11_isTerm_15 : RW M_X11_isTerm 15 (.iload_n 1) 1 0 0 16 := ⟨rfl, rfl⟩
theorem r_X11_isTerm_16 : RW M_X11_isTerm 16 (.bipush 48) 2 0 0 18 := ⟨rfl, rfl⟩
theorem r_X11_isTerm_18 : RW M_X11_isTerm 18 (.if_icmp .gt 7) 3 25 0 21 := ⟨rfl, rfl⟩
theorem r_X11_isTerm_21 : RW M_X11_isTerm 21 (.iconst 1) 1 0 0 22 := ⟨rfl, rfl⟩
theorem r_X11_isTerm_22 : RW M_X11_isTerm 22 (.goto 4) 3 26 0 25 := ⟨rfl, rfl⟩
theorem r_X11_isTerm_25 : RW M_X11_isTerm 25 (.iconst 0) 1 0 0 26 := ⟨rfl, rfl⟩
theorem r_X11_isTerm_26 : RW M_X11_isTerm 26 (.ireturn) 1 0 0 27 := ⟨rfl, rfl⟩
theorem r_X11_span_0 : RW M_X11_span 0 (.aload_n 0) 1 0 0 1 := ⟨rfl, rfl⟩
theorem r_X11_span_1 : RW M_X11_span 1 (.iconst 0) 1 0 0 2 := ⟨rfl, rfl⟩
theorem r_X11_span_2 : RW M_X11_span 2 (.putfield 3) 3 11 0 5 := ⟨rfl, rfl⟩
theorem r_X11_span_5 : RW M_X11_span 5 (.aload_n 0) 1 0 0 6 := ⟨rfl, rfl⟩
theorem r_X11_span_6 : RW M_X11_span 6 (.iload_n 2) 1 0 0 7 := ⟨rfl, rfl⟩
theorem r_X11_span_7 : RW M_X11_span 7 (.iconst 1) 1 0 0 8 := ⟨rfl, rfl⟩
theorem r_X11_span_8 : RW M_X11_span 8 (.bipush 10) 2 0 0 10 := ⟨rfl, rfl⟩
theorem r_X11_span_10 : RW M_X11_span 10 (.invokestatic 392) 3 170 0 13 := ⟨rfl, rfl⟩
theorem r_X11_span_13 : RW M_X11_span 13 (.ifCond .eq 41) 3 54 0 16 := ⟨rfl, rfl⟩
theorem r_X11_span_16 : RW M_X11_span 16 (.iload_n 3) 1 0 0 17 := ⟨rfl, rfl⟩
theorem r_X11_span_17 : RW M_X11_span 17 (.iload 4) 2 0 0 19 := ⟨rfl, rfl⟩
theorem r_X11_span_19 : RW M_X11_span 19 (.invokestatic 465) 3 282 0 22 := ⟨rfl, rfl⟩
theorem r_X11_span_22 : RW M_X11_span 22 (.ifCond .eq 32) 3 54 0 25 := ⟨rfl, rfl⟩
theorem r_X11_span_25 : RW M_X11_span 25 (.iload 5) 2 0 0 27 := ⟨rfl, rfl⟩
theorem r_X11_span_27 : RW M_X11_span 27 (.iconst 0) 1 0 0 28 := ⟨rfl, rfl⟩
theorem r_X11_span_28 : RW M_X11_span 28 (.iconst 2) 1 0 0 29 := ⟨rfl, rfl⟩
theorem r_X11_span_29 : RW M_X11_span 29 (.invokestatic 392) 3 170 0 32 := ⟨rfl, rfl⟩
theorem r_X11_span_32 : RW M_X11_span 32 (.ifCond .eq 22) 3 54 0 35 := ⟨rfl, rfl⟩
theorem r_X11_span_35 : RW M_X11_span 35 (.iload 6) 2 0 0 37 := ⟨rfl, rfl⟩
theorem r_X11_span_37 : RW M_X11_span 37 (.iconst 0) 1 0 0 38 := ⟨rfl, rfl⟩
theorem r_X11_span_38 : RW M_X11_span 38 (.aload_n 0) 1 0 0 39 := ⟨rfl, rfl⟩
theorem r_X11_span_39 : RW M_X11_span 39 (.getfield 166) 3 11 22 42 := ⟨rfl, rfl⟩
theorem r_X11_span_42 : RW M_X11_span 42 (.iconst 1) 1 0 0 43 := ⟨rfl, rfl⟩
theorem r_X11_span_43 : RW M_X11_span 43 (.isub) 1 0 0 44 := ⟨rfl, rfl⟩
theorem r_X11_span_44 : RW M_X11_span 44 (.invokestatic 392) 3 170 0 47 := ⟨rfl, rfl⟩
theorem r_X11_span_47 : RW M_X11_span 47 (.ifCond .eq 7) 3 54 0 50 := ⟨rfl, rfl⟩
theorem r_X11_span_50 : RW M_X11_span 50 (.iconst 1) 1 0 0 51 := ⟨rfl, rfl⟩
theorem r_X11_span_51 : RW M_X11_span 51 (.goto 4) 3 55 0 54 := ⟨rfl, rfl⟩
theorem r_X11_span_54 : RW M_X11_span 54 (.iconst 0) 1 0 0 55 := ⟨rfl, rfl⟩
theorem r_X11_span_55 : RW M_X11_span 55 (.iconst 1) 1 0 0 56 := ⟨rfl, rfl⟩
theorem r_X11_span_56 : RW M_X11_span 56 (.iconst 1) 1 0 0 57 := ⟨rfl, rfl⟩
theorem r_X11_span_57 : RW M_X11_span 57 (.invokevirtual 210) 3 169 0 60 := ⟨rfl, rfl⟩
theorem r_X11_span_60 : RW M_X11_span 60 (.ifCond .ne 5) 3 65 0 63 := ⟨rfl, rfl⟩
theorem r_X11_span_63 : RW M_X11_span 63 (.iconst 0) 1 0 0 64 := ⟨rfl, rfl⟩
theorem r_X11_span_64 : RW M_X11_span 64 (.ireturn) 1 0 0 65 := ⟨rfl, rfl⟩
theorem r_X11_span_65 : RW M_X11_span 65 (.iconst 0) 1 0 0 66 := ⟨rfl, rfl⟩
theorem r_X11_span_66 : RW M_X11_span 66 (.istore 7) 2 0 0 68 := ⟨rfl, rfl⟩
theorem r_X11_span_68 : RW M_X11_span 68 (.iconst 0) 1 0 0 69 := ⟨rfl, rfl⟩
theorem r_X11_span_69 : RW M_X11_span 69 (.istore 8) 2 0 0 71 := ⟨rfl, rfl⟩
theorem r_X11_span_71 : RW M_X11_span 71 (.iconst 0) 1 0 0 72 := ⟨rfl, rfl⟩
theorem r_X11_span_72 : RW M_X11_span 72 (.istore 9) 2 0 0 74 := ⟨rfl, rfl⟩
theorem r_X11_span_74 : RW M_X11_span 74 (.iconst 0) 1 0 0 75 := ⟨rfl, rfl⟩
theorem r_X11_span_75 : RW M_X11_span 75 (.istore 10) 2 0 0 77 := ⟨rfl, rfl⟩
theorem r_X11_span_77 : RW M_X11_span 77 (.iload 10) 2 0 11 79 := ⟨rfl, rfl⟩
theorem r_X11_span_79 : RW M_X11_span 79 (.iload_n 2) 1 0 0 80 := ⟨rfl, rfl⟩
theorem r_X11_span_80 : RW M_X11_span 80 (.if_icmp .ge 93) 3 173 0 83 := ⟨rfl, rfl⟩
theorem r_X11_span_83 : RW M_X11_span 83 (.aload_n 0) 1 0 0 84 := ⟨rfl, rfl⟩
theorem r_X11_span_84 : RW M_X11_span 84 (.iload_n 1) 1 0 0 85 := ⟨rfl, rfl⟩
theorem r_X11_span_85 : RW M_X11_span 85 (.iload 10) 2 0 0 87 := ⟨rfl, rfl⟩
theorem r_X11_span_87 : RW M_X11_span 87 (.iadd) 1 0 0 88 := ⟨rfl, rfl⟩
theorem r_X11_span_88 : RW M_X11_span 88 (.iload_n 3) 1 0 0 89 := ⟨rfl, rfl⟩
theorem r_X11_span_89 : RW M_X11_span 89 (.iload 4) 2 0 0 91 := ⟨rfl, rfl⟩
theorem r_X11_span_91 : RW M_X11_span 91 (.invokevirtual 468) 3 281 0 94 := ⟨rfl, rfl⟩
theorem r_X11_span_94 : RW M_X11_span 94 (.aload_n 0) 1 0 0 95 := ⟨rfl, rfl⟩
theorem r_X11_span_95 : RW M_X11_span 95 (.aload_n 0) 1 0 0 96 := ⟨rfl, rfl⟩
theorem r_X11_span_96 : RW M_X11_span 96 (.aload_n 0) 1 0 0 97 := ⟨rfl, rfl⟩
theorem r_X11_span_97 : RW M_X11_span 97 (.getfield 74) 3 11 43 100 := ⟨rfl, rfl⟩
theorem r_X11_span_100 : RW M_X11_span 100 (.bipush 30) 2 0 0 102 := ⟨rfl, rfl⟩
theorem r_X11_span_102 : RW M_X11_span 102 (.iaload) 1 0 0 103 := ⟨rfl, rfl⟩
theorem r_X11_span_103 : RW M_X11_span 103 (.invokevirtual 395) 3 226 0 106 := ⟨rfl, rfl⟩
theorem r_X11_span_106 : RW M_X11_span 106 (.invokevirtual 404) 3 225 0 109 := ⟨rfl, rfl⟩
theorem r_X11_span_109 : RW M_X11_span 109 (.istore 11) 2 0 0 111 := ⟨rfl, rfl⟩
theorem r_X11_span_111 : RW M_X11_span 111 (.iload 10) 2 0 0 113 := ⟨rfl, rfl⟩
theorem r_X11_span_113 : RW M_X11_span 113 (.ifCond .eq 10) 3 123 0 116 := ⟨rfl, rfl⟩
theorem r_X11_span_116 : RW M_X11_span 116 (.iload 11) 2 0 0 118 := ⟨rfl, rfl⟩
theorem r_X11_span_118 : RW M_X11_span 118 (.iload 7) 2 0 0 120 := ⟨rfl, rfl⟩
theorem r_X11_span_120 : RW M_X11_span 120 (.if_icmp .ge 8) 3 128 0 123 := ⟨rfl, rfl⟩
theorem r_X11_span_123 : RW M_X11_span 123 (.iload 11) 2 0 0 125 := ⟨rfl, rfl⟩
theorem r_X11_span_125 : RW M_X11_span 125 (.goto 5) 3 130 0 128 := ⟨rfl, rfl⟩
theorem r_X11_span_128 : RW M_X11_span 128 (.iload 7) 2 0 0 130 := ⟨rfl, rfl⟩
theorem r_X11_span_130 : RW M_X11_span 130 (.istore 7) 2 0 0 132 := ⟨rfl, rfl⟩
theorem r_X11_span_132 : RW M_X11_span 132 (.iload 10) 2 0 0 134 := ⟨rfl, rfl⟩
theorem r_X11_span_134 : RW M_X11_span 134 (.ifCond .eq 10) 3 144 0 137 := ⟨rfl, rfl⟩
theorem r_X11_span_137 : RW M_X11_span 137 (.iload 11) 2 0 0 139 := ⟨rfl, rfl⟩
theorem r_X11_span_139 : RW M_X11_span 139 (.iload 8) 2 0 0 141 := ⟨rfl, rfl⟩
theorem r_X11_span_141 : RW M_X11_span 141 (.if_icmp .le 8) 3 149 0 144 := ⟨rfl, rfl⟩
theorem r_X11_span_144 : RW M_X11_span 144 (.iload 11) 2 0 0 146 := ⟨rfl, rfl⟩
theorem r_X11_span_146 : RW M_X11_span 146 (.goto 5) 3 151 0 149 := ⟨rfl, rfl⟩
theorem r_X11_span_149 : RW M_X11_span 149 (.iload 8) 2 0 0 151 := ⟨rfl, rfl⟩
theorem r_X11_span_151 : RW M_X11_span 151 (.istore 8) 2 0 0 153 := ⟨rfl, rfl⟩
theorem r_X11_span_153 : RW M_X11_span 153 (.iload 9) 2 0 0 155 := ⟨rfl, rfl⟩
theorem r_X11_span_155 : RW M_X11_span 155 (.aload_n 0) 1 0 0 156 := ⟨rfl, rfl⟩
theorem r_X11_span_156 : RW M_X11_span 156 (.invokevirtual 370) 3 221 0 159 := ⟨rfl, rfl⟩
theorem r_X11_span_159 : RW M_X11_span 159 (.iload 6) 2 0 0 161 := ⟨rfl, rfl⟩
theorem r_X11_span_161 : RW M_X11_span 161 (.ishr) 1 0 0 162 := ⟨rfl, rfl⟩
theorem r_X11_span_162 : RW M_X11_span 162 (.iconst 1) 1 0 0 163 := ⟨rfl, rfl⟩
theorem r_X11_span_163 : RW M_X11_span 163 (.iand) 1 0 0 164 := ⟨rfl, rfl⟩
theorem r_X11_span_164 : RW M_X11_span 164 (.iadd) 1 0 0 165 := ⟨rfl, rfl⟩
theorem r_X11_span_165 : RW M_X11_span 165 (.istore 9) 2 0 0 167 := ⟨rfl, rfl⟩
theorem r_X11_span_167 : RW M_X11_span 167 (.iinc 10 1) 3 0 0 170 := ⟨rfl, rfl⟩
theorem r_X11_span_170 : RW M_X11_span 170 (.goto (-93)) 3 77 0 173 := ⟨rfl, rfl⟩
theorem r_X11_span_173 : RW M_X11_span 173 (.iload 5) 2 0 0 175 := ⟨rfl, rfl⟩
theorem r_X11_span_175 : RW M_X11_span 175 (.ifCond .ne 8) 3 183 0 178 := ⟨rfl, rfl⟩
theorem r_X11_span_178 : RW M_X11_span 178 (.iload 7) 2 0 0 180 := ⟨rfl, rfl⟩
theorem r_X11_span_180 : RW M_X11_span 180 (.goto 16) 3 196 0 183 := ⟨rfl, rfl⟩
theorem r_X11_span_183 : RW M_X11_span 183 (.iload 5) 2 0 0 185 := ⟨rfl, rfl⟩
theorem r_X11_span_185 : RW M_X11_span 185 (.iconst 1) 1 0 0 186 := ⟨rfl, rfl⟩
theorem r_X11_span_186 : RW M_X11_span 186 (.if_icmp .ne 8) 3 194 0 189 := ⟨rfl, rfl⟩
theorem r_X11_span_189 : RW M_X11_span 189 (.iload 8) 2 0 0 191 := ⟨rfl, rfl⟩
theorem r_X11_span_191 : RW M_X11_span 191 (.goto 5) 3 196 0 194 := ⟨rfl, rfl⟩
theorem r_X11_span_194 : RW M_X11_span 194 (.iload 9) 2 0 0 196 := ⟨rfl, rfl⟩
theorem r_X11_span_196 : RW M_X11_span 196 (.ireturn) 1 0 0 197 := ⟨rfl, rfl⟩
theorem r_X11_term_0 : RW M_X11_term 0 (.aload_n 0) 1 0 0 1 := ⟨rfl, rfl⟩
theorem r_X11_term_1 : RW M_X11_term 1 (.iconst 0) 1 0 0 2 := ⟨rfl, rfl⟩
theorem r_X11_term_2 : RW M_X11_term 2 (.putfield 3) 3 11 0 5 := ⟨rfl, rfl⟩
theorem r_X11_term_5 : RW M_X11_term 5 (.aload_n 0) 1 0 0 6 := ⟨rfl, rfl⟩
theorem r_X11_term_6 : RW M_X11_term 6 (.iload_n 2) 1 0 0 7 := ⟨rfl, rfl⟩
theorem r_X11_term_7 : RW M_X11_term 7 (.iload_n 3) 1 0 0 8 := ⟨rfl, rfl⟩
theorem r_X11_term_8 : RW M_X11_term 8 (.invokestatic 465) 3 282 0 11 := ⟨rfl, rfl⟩
theorem r_X11_term_11 : RW M_X11_term 11 (.ifCond .eq 17) 3 28 0 14 := ⟨rfl, rfl⟩
theorem r_X11_term_14 : RW M_X11_term 14 (.iload 4) 2 0 0 16 := ⟨rfl, rfl⟩
theorem r_X11_term_16 : RW M_X11_term 16 (.iconst 0) 1 0 0 17 := ⟨rfl, rfl⟩
theorem r_X11_term_17 : RW M_X11_term 17 (.iconst 3) 1 0 0 18 := ⟨rfl, rfl⟩
theorem r_X11_term_18 : RW M_X11_term 18 (.invokestatic 392) 3 170 0 21 := ⟨rfl, rfl⟩
theorem r_X11_term_21 : RW M_X11_term 21 (.ifCond .eq 7) 3 28 0 24 := ⟨rfl, rfl⟩
theorem r_X11_term_24 : RW M_X11_term 24 (.iconst 1) 1 0 0 25 := ⟨rfl, rfl⟩
theorem r_X11_term_25 : RW M_X11_term 25 (.goto 4) 3 29 0 28 := ⟨rfl, rfl⟩
theorem r_X11_term_28 : RW M_X11_term 28 (.iconst 0) 1 0 0 29 := ⟨rfl, rfl⟩
theorem r_X11_term_29 : RW M_X11_term 29 (.iconst 1) 1 0 0 30 := ⟨rfl, rfl⟩
theorem r_X11_term_30 : RW M_X11_term 30 (.iconst 1) 1 0 0 31 := ⟨rfl, rfl⟩
theorem r_X11_term_31 : RW M_X11_term 31 (.invokevirtual 210) 3 169 0 34 := ⟨rfl, rfl⟩
theorem r_X11_term_34 : RW M_X11_term 34 (.ifCond .ne 5) 3 39 0 37 := ⟨rfl, rfl⟩
theorem r_X11_term_37 : RW M_X11_term 37 (.iconst 0) 1 0 0 38 := ⟨rfl, rfl⟩
theorem r_X11_term_38 : RW M_X11_term 38 (.ireturn) 1 0 0 39 := ⟨rfl, rfl⟩
theorem r_X11_term_39 : RW M_X11_term 39 (.aload_n 0) 1 0 0 40 := ⟨rfl, rfl⟩
theorem r_X11_term_40 : RW M_X11_term 40 (.iload_n 1) 1 0 0 41 := ⟨rfl, rfl⟩
theorem r_X11_term_41 : RW M_X11_term 41 (.iload_n 2) 1 0 0 42 := ⟨rfl, rfl⟩
theorem r_X11_term_42 : RW M_X11_term 42 (.iload_n 3) 1 0 0 43 := ⟨rfl, rfl⟩
theorem r_X11_term_43 : RW M_X11_term 43 (.invokevirtual 468) 3 281 0 46 := ⟨rfl, rfl⟩
theorem r_X11_term_46 : RW M_X11_term 46 (.iload 4) 2 0 0 48 := ⟨rfl, rfl⟩
theorem r_X11_term_48 : RW M_X11_term 48 (.ifCond .ne 10) 3 58 0 51 := ⟨rfl, rfl⟩
theorem r_X11_term_51 : RW M_X11_term 51 (.aload_n 0) 1 0 0 52 := ⟨rfl, rfl⟩
theorem r_X11_term_52 : RW M_X11_term 52 (.invokevirtual 370) 3 221 0 55 := ⟨rfl, rfl⟩
theorem r_X11_term_55 : RW M_X11_term 55 (.goto 50) 3 105 0 58 := ⟨rfl, rfl⟩
theorem r_X11_term_58 : RW M_X11_term 58 (.iload 4) 2 0 0 60 := ⟨rfl, rfl⟩
theorem r_X11_term_60 : RW M_X11_term 60 (.iconst 1) 1 0 0 61 := ⟨rfl, rfl⟩
theorem r_X11_term_61 : RW M_X11_term 61 (.if_icmp .ne 21) 3 82 0 64 := ⟨rfl, rfl⟩
theorem r_X11_term_64 : RW M_X11_term 64 (.aload_n 0) 1 0 0 65 := ⟨rfl, rfl⟩
theorem r_X11_term_65 : RW M_X11_term 65 (.aload_n 0) 1 0 0 66 := ⟨rfl, rfl⟩
theorem r_X11_term_66 : RW M_X11_term 66 (.aload_n 0) 1 0 0 67 := ⟨rfl, rfl⟩
theorem r_X11_term_67 : RW M_X11_term 67 (.getfield 74) 3 11 43 70 := ⟨rfl, rfl⟩
theorem r_X11_term_70 : RW M_X11_term 70 (.bipush 30) 2 0 0 72 := ⟨rfl, rfl⟩
theorem r_X11_term_72 : RW M_X11_term 72 (.iaload) 1 0 0 73 := ⟨rfl, rfl⟩
theorem r_X11_term_73 : RW M_X11_term 73 (.invokevirtual 395) 3 226 0 76 := ⟨rfl, rfl⟩
theorem r_X11_term_76 : RW M_X11_term 76 (.invokevirtual 404) 3 225 0 79 := ⟨rfl, rfl⟩
theorem r_X11_term_79 : RW M_X11_term 79 (.goto 26) 3 105 0 82 := ⟨rfl, rfl⟩
theorem r_X11_term_82 : RW M_X11_term 82 (.iload 4) 2 0 0 84 := ⟨rfl, rfl⟩
theorem r_X11_term_84 : RW M_X11_term 84 (.iconst 2) 1 0 0 85 := ⟨rfl, rfl⟩
theorem r_X11_term_85 : RW M_X11_term 85 (.if_icmp .ne 10) 3 95 0 88 := ⟨rfl, rfl⟩
theorem r_X11_term_88 : RW M_X11_term 88 (.aload_n 0) 1 0 0 89 := ⟨rfl, rfl⟩
theorem r_X11_term_89 : RW M_X11_term 89 (.invokevirtual 398) 3 235 0 92 := ⟨rfl, rfl⟩
theorem r_X11_term_92 : RW M_X11_term 92 (.goto 13) 3 105 0 95 := ⟨rfl, rfl⟩
theorem r_X11_term_95 : RW M_X11_term 95 (.aload_n 0) 1 0 0 96 := ⟨rfl, rfl⟩
theorem r_X11_term_96 : RW M_X11_term 96 (.bipush 26) 2 0 0 98 := ⟨rfl, rfl⟩
theorem r_X11_term_98 : RW M_X11_term 98 (.aload_n 0) 1 0 0 99 := ⟨rfl, rfl⟩
theorem r_X11_term_99 : RW M_X11_term 99 (.getfield 175) 3 11 25 102 := ⟨rfl, rfl⟩
theorem r_X11_term_102 : RW M_X11_term 102 (.invokevirtual 344) 3 214 0 105 := ⟨rfl, rfl⟩
theorem r_X11_term_105 : RW M_X11_term 105 (.ireturn) 1 0 0 106 := ⟨rfl, rfl⟩
theorem r_X11_termGoes_0 : RW M_X11_termGoes 0 (.aload_n 0) 1 0 0 1 := ⟨rfl, rfl⟩
theorem r_X11_termGoes_1 : RW M_X11_termGoes 1 (.invokevirtual 322) 3 212 0 4 := ⟨rfl, rfl⟩
theorem r_X11_termGoes_4 : RW M_X11_termGoes 4 (.aload_n 0) 1 0 0 5 := ⟨rfl, rfl⟩
theorem r_X11_termGoes_5 : RW M_X11_termGoes 5 (.iload_n 1) 1 0 0 6 := ⟨rfl, rfl⟩
theorem r_X11_termGoes_6 : RW M_X11_termGoes 6 (.putfield 458) 3 11 53 9 := ⟨rfl, rfl⟩
theorem r_X11_termGoes_9 : RW M_X11_termGoes 9 (.iconst 0) 1 0 0 10 := ⟨rfl, rfl⟩
theorem r_X11_termGoes_10 : RW M_X11_termGoes 10 (.istore 4) 2 0 0 12 := ⟨rfl, rfl⟩
theorem r_X11_termGoes_12 : RW M_X11_termGoes 12 (.iload 4) 2 0 5 14 := ⟨rfl, rfl⟩
theorem r_X11_termGoes_14 : RW M_X11_termGoes 14 (.iload_n 3) 1 0 0 15 := ⟨rfl, rfl⟩
theorem r_X11_termGoes_15 : RW M_X11_termGoes 15 (.if_icmp .ge 113) 3 128 0 18 := ⟨rfl, rfl⟩
theorem r_X11_termGoes_18 : RW M_X11_termGoes 18 (.aload_n 0) 1 0 0 19 := ⟨rfl, rfl⟩
theorem r_X11_termGoes_19 : RW M_X11_termGoes 19 (.getfield 175) 3 11 25 22 := ⟨rfl, rfl⟩
theorem r_X11_termGoes_22 : RW M_X11_termGoes 22 (.ifCond .le 69) 3 91 0 25 := ⟨rfl, rfl⟩
theorem r_X11_termGoes_25 : RW M_X11_termGoes 25 (.aload_n 0) 1 0 0 26 := ⟨rfl, rfl⟩
theorem r_X11_termGoes_26 : RW M_X11_termGoes 26 (.getfield 172) 3 11 24 29 := ⟨rfl, rfl⟩
theorem r_X11_termGoes_29 : RW M_X11_termGoes 29 (.ifCond .le 62) 3 91 0 32 := ⟨rfl, rfl⟩
theorem r_X11_termGoes_32 : RW M_X11_termGoes 32 (.aload_n 0) 1 0 0 33 := ⟨rfl, rfl⟩
theorem r_X11_termGoes_33 : RW M_X11_termGoes 33 (.aload_n 0) 1 0 0 34 := ⟨rfl, rfl⟩
theorem r_X11_termGoes_34 : RW M_X11_termGoes 34 (.getfield 175) 3 11 25 37 := ⟨rfl, rfl⟩
theorem r_X11_termGoes_37 : RW M_X11_termGoes 37 (.invokevirtual 462) 3 280 0 40 := ⟨rfl, rfl⟩
theorem r_X11_termGoes_40 : RW M_X11_termGoes 40 (.istore 5) 2 0 0 42 := ⟨rfl, rfl⟩
theorem r_X11_termGoes_42 : RW M_X11_termGoes 42 (.aload_n 0) 1 0 0 43 := ⟨rfl, rfl⟩
theorem r_X11_termGoes_43 : RW M_X11_termGoes 43 (.aload_n 0) 1 0 0 44 := ⟨rfl, rfl⟩
theorem r_X11_termGoes_44 : RW M_X11_termGoes 44 (.getfield 172) 3 11 24 47 := ⟨rfl, rfl⟩
theorem r_X11_termGoes_47 : RW M_X11_termGoes 47 (.invokevirtual 462) 3 280 0 50 := ⟨rfl, rfl⟩
theorem r_X11_termGoes_50 : RW M_X11_termGoes 50 (.istore 6) 2 0 0 52 := ⟨rfl, rfl⟩
theorem r_X11_termGoes_52 : RW M_X11_termGoes 52 (.aload_n 0) 1 0 0 53 := ⟨rfl, rfl⟩
theorem r_X11_termGoes_53 : RW M_X11_termGoes 53 (.bipush 16) 2 0 0 55 := ⟨rfl, rfl⟩
theorem r_X11_termGoes_55 : RW M_X11_termGoes 55 (.invokevirtual 462) 3 280 0 58 := ⟨rfl, rfl⟩
theorem r_X11_termGoes_58 : RW M_X11_termGoes 58 (.iload_n 2) 1 0 0 59 := ⟨rfl, rfl⟩
theorem r_X11_termGoes_59 : RW M_X11_termGoes 59 (.if_icmp .ge 23) 3 82 0 62 := ⟨rfl, rfl⟩
theorem r_X11_termGoes_62 : RW M_X11_termGoes 62 (.aload_n 0) 1 0 0 63 := ⟨rfl, rfl⟩
theorem r_X11_termGoes_63 : RW M_X11_termGoes 63 (.iload 5) 2 0 0 65 := ⟨rfl, rfl⟩
theorem r_X11_termGoes_65 : RW M_X11_termGoes 65 (.iload 6) 2 0 0 67 := ⟨rfl, rfl⟩
theorem r_X11_termGoes_67 : RW M_X11_termGoes 67 (.iconst 1) 1 0 0 68 := ⟨rfl, rfl⟩
theorem r_X11_termGoes_68 : RW M_X11_termGoes 68 (.aload_n 0) 1 0 0 69 := ⟨rfl, rfl⟩
theorem r_X11_termGoes_69 : RW M_X11_termGoes 69 (.bipush 9) 2 0 0 71 := ⟨rfl, rfl⟩
theorem r_X11_termGoes_71 : RW M_X11_termGoes 71 (.invokevirtual 462) 3 280 0 74 := ⟨rfl, rfl⟩
theorem r_X11_termGoes_74 : RW M_X11_termGoes 74 (.iadd) 1 0 0 75 := ⟨rfl, rfl⟩
theorem r_X11_termGoes_75 : RW M_X11_termGoes 75 (.invokevirtual 383) 3 229 0 78 := ⟨rfl, rfl⟩
theorem r_X11_termGoes_78 : RW M_X11_termGoes 78 (.pop) 1 0 0 79 := ⟨rfl, rfl⟩
theorem r_X11_termGoes_79 : RW M_X11_termGoes 79 (.goto 12) 3 91 0 82 := ⟨rfl, rfl⟩
theorem r_X11_termGoes_82 : RW M_X11_termGoes 82 (.aload_n 0) 1 0 0 83 := ⟨rfl, rfl⟩
theorem r_X11_termGoes_83 : RW M_X11_termGoes 83 (.iload 5) 2 0 0 85 := ⟨rfl, rfl⟩
theorem r_X11_termGoes_85 : RW M_X11_termGoes 85 (.iload 6) 2 0 0 87 := ⟨rfl, rfl⟩
theorem r_X11_termGoes_87 : RW M_X11_termGoes 87 (.invokevirtual 379) 3 227 0 90 := ⟨rfl, rfl⟩
theorem r_X11_termGoes_90 : RW M_X11_termGoes 90 (.pop) 1 0 0 91 := ⟨rfl, rfl⟩
theorem r_X11_termGoes_91 : RW M_X11_termGoes 91 (.aload_n 0) 1 0 5 92 := ⟨rfl, rfl⟩
theorem r_X11_termGoes_92 : RW M_X11_termGoes 92 (.getfield 166) 3 11 22 95 := ⟨rfl, rfl⟩
theorem r_X11_termGoes_95 : RW M_X11_termGoes 95 (.ifCond .le 16) 3 111 0 98 := ⟨rfl, rfl⟩
theorem r_X11_termGoes_98 : RW M_X11_termGoes 98 (.aload_n 0) 1 0 0 99 := ⟨rfl, rfl⟩
theorem r_X11_termGoes_99 : RW M_X11_termGoes 99 (.aload_n 0) 1 0 0 100 := ⟨rfl, rfl⟩
theorem r_X11_termGoes_100 : RW M_X11_termGoes 100 (.aload_n 0) 1 0 0 101 := ⟨rfl, rfl⟩
theorem r_X11_termGoes_101 : RW M_X11_termGoes 101 (.getfield 166) 3 11 22 104 := ⟨rfl, rfl⟩
theorem r_X11_termGoes_104 : RW M_X11_termGoes 104 (.invokevirtual 462) 3 280 0 107 := ⟨rfl, rfl⟩
theorem r_X11_termGoes_107 : RW M_X11_termGoes 107 (.invokevirtual 389) 3 231 0 110 := ⟨rfl, rfl⟩
theorem r_X11_termGoes_110 : RW M_X11_termGoes 110 (.pop) 1 0 0 111 := ⟨rfl, rfl⟩
theorem r_X11_termGoes_111 : RW M_X11_termGoes 111 (.aload_n 0) 1 0 0 112 := ⟨rfl, rfl⟩
theorem r_X11_termGoes_112 : RW M_X11_termGoes 112 (.getfield 74) 3 11 43 115 := ⟨rfl, rfl⟩
theorem r_X11_termGoes_115 : RW M_X11_termGoes 115 (.bipush 30) 2 0 0 117 := ⟨rfl, rfl⟩
theorem r_X11_termGoes_117 : RW M_X11_termGoes 117 (.dup2) 1 0 0 118 := ⟨rfl, rfl⟩
theorem r_X11_termGoes_118 : RW M_X11_termGoes 118 (.iaload) 1 0 0 119 := ⟨rfl, rfl⟩
theorem r_X11_termGoes_119 : RW M_X11_termGoes 119 (.iconst 1) 1 0 0 120 := ⟨rfl, rfl⟩
theorem r_X11_termGoes_120 : RW M_X11_termGoes 120 (.iadd) 1 0 0 121 := ⟨rfl, rfl⟩
theorem r_X11_termGoes_121 : RW M_X11_termGoes 121 (.iastore) 1 0 0 122 := ⟨rfl, rfl⟩
theorem r_X11_termGoes_122 : RW M_X11_termGoes 122 (.iinc 4 1) 3 0 0 125 := ⟨rfl, rfl⟩
theorem r_X11_termGoes_125 : RW M_X11_termGoes 125 (.goto (-113)) 3 12 0 128 := ⟨rfl, rfl⟩
theorem r_X11_termGoes_128 : RW M_X11_termGoes 128 (.return_) 1 0 0 129 := ⟨rfl, rfl⟩
theorem m_termGoes {d : Nat} {I : Nat → Nat → Int32} {J : Nat → Nat → Int64} {κ : CT} {l : LW} {η : HS} (mc_ : MC κ I) (cb : CB κ) (mr : MR 125 κ η I) (ml_ : ML l I) (lb : LB l) (ho : hOk κ l η η.mi) (h4 : η.mi ≤ 400) {s : Int32} {q n : Nat} (hq : q ≤ 16) (hn : n ≤ 48)  (hd : 12 ≤ d) : RU d 281 [.ref 106, .int s, .int (nI q), .int (nI n)] I J (fun I' => MR 126 κ (trm κ l q (s, η) n).2 I' ∧ FRT I I') := by
  refine RU.in (d0 := 11) hd mt_281 (Nat.le_of_ble_eq_true rfl) (fun d' hd' => ?_)
  have bns := cb.ns; have bnb := cb.nb; have bnc := cb.nc; have bnr := cb.nr
  show EV none M_X11_termGoes d' 0 [(0, .ref 106), (1, .int s), (2, .int (nI q)), (3, .int (nI n))] [] (hp I J) _
  refine EV.l (lv' := [(0, _), (1, _), (2, _), (3, _)]) r_X11_termGoes_0 rfl ?_
  refine EV.cu r_X11_termGoes_1 (aV0 mt_212 la_106) (m_take (by omega)) (fun I2 e2 => ?_)
  have mr2 : MR 126 κ η I2 := by subst e2; exact MR.take mr cb
  have f2 : FRT I I2 := by subst e2; exact ⟨fun x _ _ _ e => cpy_row e, fun j _ => congrFun (cpy_row (by decide)) j⟩
  refine EV.l (lv' := [(0, _), (1, _), (2, _), (3, _)]) r_X11_termGoes_4 rfl ?_
  refine EV.l (lv' := [(0, _), (1, _), (2, _), (3, _)]) r_X11_termGoes_5 rfl ?_
  refine EV.pIn r_X11_termGoes_6 la_106 (fun I3 e3 => ?_)
  have mr3 : MR 126 κ η I3 := mr2.fr (by subst e3; exact wr_row (by decide))
  have f3 : FRT I I3 := f2.tr (by subst e3; exact FRT.dr)
  have s3 : I3 106 53 = s := by subst e3; exact wr_same
  refine EV.o r_X11_termGoes_9 (icN (0) (v := 0)) ?_
  refine EV.l (lv' := [(0, _), (1, _), (2, _), (3, _), (4, _)]) r_X11_termGoes_10 rfl ?_
  have L12 : ∀ y_ : Nat × (Nat → Nat → Int32), (fun y => (y.1 ≤ n ∧ MR 126 κ (trm κ l q (s, η) y.1).2 y.2 ∧ y.2 106 53 = (trm κ l q (s, η) y.1).1 ∧ FRT I y.2) → EV none M_X11_termGoes d' 12 [(0, .ref 106), (1, .int s), (2, .int (nI q)), (3, .int (nI n)), (4, .int (nI y.1))] [] (hp y.2 J) (QU J (fun I' => MR 126 κ (trm κ l q (s, η) n).2 I' ∧ FRT I I'))) y_ := by
    refine ev_loop (fun y => n - y.1) ?_
    intro ⟨t, I1⟩ ih12 hx12
    try dsimp only at ih12
    try dsimp only at hx12
    try dsimp only
    obtain ⟨tl, mrx, sq, fx⟩ := hx12
    have mcx := fx.mc mc_; have mlx := fx.ml ml_
    have ho1 := trm_ok (q := q) (p := (s, η)) ho h4 t (by omega)
    refine EV.l (lv' := [(0, _), (1, _), (2, _), (3, _), (4, _)]) r_X11_termGoes_12 rfl ?_
    refine EV.l (lv' := [(0, _), (1, _), (2, _), (3, _), (4, _)]) r_X11_termGoes_14 rfl ?_
    refine EV.n2_ge r_X11_termGoes_15 (fun h15 => ?_) (fun h15 => ?_)
    · -- 15 t
      exact EV.ru r_X11_termGoes_128 (⟨by rw [show n = t by omega]; exact mrx, fx⟩)
    · -- 15 f
      refine EV.l (lv' := [(0, _), (1, _), (2, _), (3, _), (4, _)]) r_X11_termGoes_18 rfl ?_
      refine EV.getV r_X11_termGoes_19 la_106 (mcx.nc) ?_
      refine EV.n0_le r_X11_termGoes_22 (fun h22 => ?_) (fun h22 => ?_)
      · -- 22 t
        obtain ⟨hA, hS, hF⟩ : MR 126 κ (trP κ l q (trm κ l q (s, η) t)).2 I1 ∧ I1 106 53 = (trP κ l q (trm κ l q (s, η) t)).1 ∧ FRT I I1 := by first | (rw [trP_f (by omega)]; exact ⟨mrx, sq, fx⟩) | (rw [trP_t (by omega) (by omega), trB_l2 (by omega)]; exact ⟨h9a.ite, (congrFun (h9b 106 (by decide)) 53).trans q4, fx.tr (fD4.tr (FRT.s1 h9b))⟩) | (rw [trP_t (by omega) (by omega), trB_c2 (by omega)]; exact ⟨h9a.ite, (congrFun (h9b 106 (by decide)) 53).trans q3, fx.tr (fD3.tr (FRT.s1 h9b))⟩)
        have mcy := hF.mc mc_; have mly := hF.ml ml_
        have ho2 := trP_ok (q := q) ho1
        refine EV.l (lv' := [(0, _), (1, _), (2, _), (3, _), (4, _)]) r_X11_termGoes_91 rfl ?_
        refine EV.getV r_X11_termGoes_92 la_106 (mcy.ns) ?_
        refine EV.n0_le r_X11_termGoes_95 (fun h95 => ?_) (fun h95 => ?_)
        · -- 95 t
          obtain ⟨hB, hT, hG⟩ : MR 126 κ (trQ κ l (trP κ l q (trm κ l q (s, η) t))).2 I1 ∧ I1 106 53 = (trQ κ l (trP κ l q (trm κ l q (s, η) t))).1 ∧ FRT I I1 := by first | (rw [trQ_f (by omega)]; exact ⟨hA, hS, hF⟩) | (rw [trQ_t (by omega)]; exact ⟨h7a.ite, (congrFun (h7b 106 (by decide) (by decide) (by decide)) 53).trans s6, hF.tr (fE.tr (FRT.s3 h7b))⟩)
          refine EV.l (lv' := [(0, _), (1, _), (2, _), (3, _), (4, _)]) r_X11_termGoes_111 rfl ?_
          refine EV.gR r_X11_termGoes_112 la_106 ?_
          refine EV.o r_X11_termGoes_115 (bpN (30) 30) ?_
          refine EV.o r_X11_termGoes_117 rfl ?_
          refine EV.iaN r_X11_termGoes_118 la_126 (hB.mi) ?_
          refine EV.o r_X11_termGoes_119 (icN (1) (v := 1)) ?_
          refine EV.o r_X11_termGoes_120 iaddN ?_
          refine EV.iaSn r_X11_termGoes_121 la_126 (fun I8 e8 => ?_)
          refine EV.l (lv' := [(0, _), (1, _), (2, _), (3, _), (4, _)]) r_X11_termGoes_122 rfl ?_
          rw [inc_nI]
          refine EV.g r_X11_termGoes_125 ?_
          refine EV.sub ?_ rfl ?_ (ih12 (t + 1, I8) ?_ ?_)
          · (try dsimp only) <;> (rfl)
          · (try dsimp only) <;> (rfl)
          · (try dsimp only) <;> (omega)
          · (try dsimp only) <;> (subst e8; exact ⟨by omega, hB.pmi cb, (wr_ne (Or.inl (by decide))).trans hT, hG.tr (FRT.s1 (fun x hx => wr_row hx))⟩)
        · -- 95 f
          refine EV.l (lv' := [(0, _), (1, _), (2, _), (3, _), (4, _)]) r_X11_termGoes_98 rfl ?_
          refine EV.l (lv' := [(0, _), (1, _), (2, _), (3, _), (4, _)]) r_X11_termGoes_99 rfl ?_
          refine EV.l (lv' := [(0, _), (1, _), (2, _), (3, _), (4, _)]) r_X11_termGoes_100 rfl ?_
          refine EV.getV r_X11_termGoes_101 la_106 (mcy.ns) ?_
          refine EV.ci r_X11_termGoes_104 (aV1 mt_280 la_106) (m_draws hS (by omega) (by omega) (by omega)) (fun v6 E1 h6 => ?_)
          obtain ⟨e, e6⟩ := h6
          subst e
          have fE : FRT I1 E1 := by rw [e6]; exact FRT.dr
          have mcE := fE.mc mcy; have mlE := fE.ml mly
          have mrE : MR 126 κ (trP κ l q (trm κ l q (s, η) t)).2 E1 := hA.fr (by rw [e6]; exact wr_row (by decide))
          have s6 : E1 106 53 = sdN (trP κ l q (trm κ l q (s, η) t)).1 := by rw [e6]; exact wr_same
          have di : dr (sdN (trP κ l q (trm κ l q (s, η) t)).1) κ.ns < κ.ns := dr_lt (by omega)
          refine EV.ci r_X11_termGoes_107 (aV1 mt_231 la_106) (m_note cb mrE ho2.1 mcE mlE lb ho2.2.1 (by omega) (by omega)) (fun v7 I7 h7 => ?_)
          obtain ⟨e7, h7a, h7b⟩ := h7
          refine EV.o r_X11_termGoes_110 rfl ?_
          obtain ⟨hB, hT, hG⟩ : MR 126 κ (trQ κ l (trP κ l q (trm κ l q (s, η) t))).2 I7 ∧ I7 106 53 = (trQ κ l (trP κ l q (trm κ l q (s, η) t))).1 ∧ FRT I I7 := by first | (rw [trQ_f (by omega)]; exact ⟨hA, hS, hF⟩) | (rw [trQ_t (by omega)]; exact ⟨h7a.ite, (congrFun (h7b 106 (by decide) (by decide) (by decide)) 53).trans s6, hF.tr (fE.tr (FRT.s3 h7b))⟩)
          refine EV.l (lv' := [(0, _), (1, _), (2, _), (3, _), (4, _)]) r_X11_termGoes_111 rfl ?_
          refine EV.gR r_X11_termGoes_112 la_106 ?_
          refine EV.o r_X11_termGoes_115 (bpN (30) 30) ?_
          refine EV.o r_X11_termGoes_117 rfl ?_
          refine EV.iaN r_X11_termGoes_118 la_126 (hB.mi) ?_
          refine EV.o r_X11_termGoes_119 (icN (1) (v := 1)) ?_
          refine EV.o r_X11_termGoes_120 iaddN ?_
          refine EV.iaSn r_X11_termGoes_121 la_126 (fun I8 e8 => ?_)
          refine EV.l (lv' := [(0, _), (1, _), (2, _), (3, _), (4, _)]) r_X11_termGoes_122 rfl ?_
          rw [inc_nI]
          refine EV.g r_X11_termGoes_125 ?_
          refine EV.sub ?_ rfl ?_ (ih12 (t + 1, I8) ?_ ?_)
          · (try dsimp only) <;> (rfl)
          · (try dsimp only) <;> (rfl)
          · (try dsimp only) <;> (omega)
          · (try dsimp only) <;> (subst e8; exact ⟨by omega, hB.pmi cb, (wr_ne (Or.inl (by decide))).trans hT, hG.tr (FRT.s1 (fun x hx => wr_row hx))⟩)
      · -- 22 f
        refine EV.l (lv' := [(0, _), (1, _), (2, _), (3, _), (4, _)]) r_X11_termGoes_25 rfl ?_
        refine EV.getV r_X11_termGoes_26 la_106 (mcx.nb) ?_
        refine EV.n0_le r_X11_termGoes_29 (fun h29 => ?_) (fun h29 => ?_)
        · -- 29 t
          obtain ⟨hA, hS, hF⟩ : MR 126 κ (trP κ l q (trm κ l q (s, η) t)).2 I1 ∧ I1 106 53 = (trP κ l q (trm κ l q (s, η) t)).1 ∧ FRT I I1 := by first | (rw [trP_f (by omega)]; exact ⟨mrx, sq, fx⟩) | (rw [trP_t (by omega) (by omega), trB_l2 (by omega)]; exact ⟨h9a.ite, (congrFun (h9b 106 (by decide)) 53).trans q4, fx.tr (fD4.tr (FRT.s1 h9b))⟩) | (rw [trP_t (by omega) (by omega), trB_c2 (by omega)]; exact ⟨h9a.ite, (congrFun (h9b 106 (by decide)) 53).trans q3, fx.tr (fD3.tr (FRT.s1 h9b))⟩)
          have mcy := hF.mc mc_; have mly := hF.ml ml_
          have ho2 := trP_ok (q := q) ho1
          refine EV.l (lv' := [(0, _), (1, _), (2, _), (3, _), (4, _)]) r_X11_termGoes_91 rfl ?_
          refine EV.getV r_X11_termGoes_92 la_106 (mcy.ns) ?_
          refine EV.n0_le r_X11_termGoes_95 (fun h95 => ?_) (fun h95 => ?_)
          · -- 95 t
            obtain ⟨hB, hT, hG⟩ : MR 126 κ (trQ κ l (trP κ l q (trm κ l q (s, η) t))).2 I1 ∧ I1 106 53 = (trQ κ l (trP κ l q (trm κ l q (s, η) t))).1 ∧ FRT I I1 := by first | (rw [trQ_f (by omega)]; exact ⟨hA, hS, hF⟩) | (rw [trQ_t (by omega)]; exact ⟨h7a.ite, (congrFun (h7b 106 (by decide) (by decide) (by decide)) 53).trans s6, hF.tr (fE.tr (FRT.s3 h7b))⟩)
            refine EV.l (lv' := [(0, _), (1, _), (2, _), (3, _), (4, _)]) r_X11_termGoes_111 rfl ?_
            refine EV.gR r_X11_termGoes_112 la_106 ?_
            refine EV.o r_X11_termGoes_115 (bpN (30) 30) ?_
            refine EV.o r_X11_termGoes_117 rfl ?_
            refine EV.iaN r_X11_termGoes_118 la_126 (hB.mi) ?_
            refine EV.o r_X11_termGoes_119 (icN (1) (v := 1)) ?_
            refine EV.o r_X11_termGoes_120 iaddN ?_
            refine EV.iaSn r_X11_termGoes_121 la_126 (fun I8 e8 => ?_)
            refine EV.l (lv' := [(0, _), (1, _), (2, _), (3, _), (4, _)]) r_X11_termGoes_122 rfl ?_
            rw [inc_nI]
            refine EV.g r_X11_termGoes_125 ?_
            refine EV.sub ?_ rfl ?_ (ih12 (t + 1, I8) ?_ ?_)
            · (try dsimp only) <;> (rfl)
            · (try dsimp only) <;> (rfl)
            · (try dsimp only) <;> (omega)
            · (try dsimp only) <;> (subst e8; exact ⟨by omega, hB.pmi cb, (wr_ne (Or.inl (by decide))).trans hT, hG.tr (FRT.s1 (fun x hx => wr_row hx))⟩)
          · -- 95 f
            refine EV.l (lv' := [(0, _), (1, _), (2, _), (3, _), (4, _)]) r_X11_termGoes_98 rfl ?_
            refine EV.l (lv' := [(0, _), (1, _), (2, _), (3, _), (4, _)]) r_X11_termGoes_99 rfl ?_
            refine EV.l (lv' := [(0, _), (1, _), (2, _), (3, _), (4, _)]) r_X11_termGoes_100 rfl ?_
            refine EV.getV r_X11_termGoes_101 la_106 (mcy.ns) ?_
            refine EV.ci r_X11_termGoes_104 (aV1 mt_280 la_106) (m_draws hS (by omega) (by omega) (by omega)) (fun v6 E1 h6 => ?_)
            obtain ⟨e, e6⟩ := h6
            subst e
            have fE : FRT I1 E1 := by rw [e6]; exact FRT.dr
            have mcE := fE.mc mcy; have mlE := fE.ml mly
            have mrE : MR 126 κ (trP κ l q (trm κ l q (s, η) t)).2 E1 := hA.fr (by rw [e6]; exact wr_row (by decide))
            have s6 : E1 106 53 = sdN (trP κ l q (trm κ l q (s, η) t)).1 := by rw [e6]; exact wr_same
            have di : dr (sdN (trP κ l q (trm κ l q (s, η) t)).1) κ.ns < κ.ns := dr_lt (by omega)
            refine EV.ci r_X11_termGoes_107 (aV1 mt_231 la_106) (m_note cb mrE ho2.1 mcE mlE lb ho2.2.1 (by omega) (by omega)) (fun v7 I7 h7 => ?_)
            obtain ⟨e7, h7a, h7b⟩ := h7
            refine EV.o r_X11_termGoes_110 rfl ?_
            obtain ⟨hB, hT, hG⟩ : MR 126 κ (trQ κ l (trP κ l q (trm κ l q (s, η) t))).2 I7 ∧ I7 106 53 = (trQ κ l (trP κ l q (trm κ l q (s, η) t))).1 ∧ FRT I I7 := by first | (rw [trQ_f (by omega)]; exact ⟨hA, hS, hF⟩) | (rw [trQ_t (by omega)]; exact ⟨h7a.ite, (congrFun (h7b 106 (by decide) (by decide) (by decide)) 53).trans s6, hF.tr (fE.tr (FRT.s3 h7b))⟩)
            refine EV.l (lv' := [(0, _), (1, _), (2, _), (3, _), (4, _)]) r_X11_termGoes_111 rfl ?_
            refine EV.gR r_X11_termGoes_112 la_106 ?_
            refine EV.o r_X11_termGoes_115 (bpN (30) 30) ?_
            refine EV.o r_X11_termGoes_117 rfl ?_
            refine EV.iaN r_X11_termGoes_118 la_126 (hB.mi) ?_
            refine EV.o r_X11_termGoes_119 (icN (1) (v := 1)) ?_
            refine EV.o r_X11_termGoes_120 iaddN ?_
            refine EV.iaSn r_X11_termGoes_121 la_126 (fun I8 e8 => ?_)
            refine EV.l (lv' := [(0, _), (1, _), (2, _), (3, _), (4, _)]) r_X11_termGoes_122 rfl ?_
            rw [inc_nI]
            refine EV.g r_X11_termGoes_125 ?_
            refine EV.sub ?_ rfl ?_ (ih12 (t + 1, I8) ?_ ?_)
            · (try dsimp only) <;> (rfl)
            · (try dsimp only) <;> (rfl)
            · (try dsimp only) <;> (omega)
            · (try dsimp only) <;> (subst e8; exact ⟨by omega, hB.pmi cb, (wr_ne (Or.inl (by decide))).trans hT, hG.tr (FRT.s1 (fun x hx => wr_row hx))⟩)
        · -- 29 f
          refine EV.l (lv' := [(0, _), (1, _), (2, _), (3, _), (4, _)]) r_X11_termGoes_32 rfl ?_
          refine EV.l (lv' := [(0, _), (1, _), (2, _), (3, _), (4, _)]) r_X11_termGoes_33 rfl ?_
          refine EV.getV r_X11_termGoes_34 la_106 (mcx.nc) ?_
          refine EV.ci r_X11_termGoes_37 (aV1 mt_280 la_106) (m_draws sq (by omega) (by omega) (by omega)) (fun v1 D1 hD1 => ?_)
          obtain ⟨e, eD1⟩ := hD1
          subst e
          have q1 : D1 106 53 = (sdN (trm κ l q (s, η) t).1) := by rw [eD1]; exact wr_same
          have gD1 : FRT I1 D1 := by rw [eD1]; exact FRT.dr
          have fD1 : FRT I1 D1 := gD1
          have mcD1 := fD1.mc mcx
          have mrD1 : MR 126 κ (trm κ l q (s, η) t).2 D1 := mrx.fr (by rw [eD1]; exact wr_row (by decide))
          have dq1 := @dr_lt (sdN (trm κ l q (s, η) t).1)
          refine EV.l (lv' := [(0, _), (1, _), (2, _), (3, _), (4, _), (5, _)]) r_X11_termGoes_40 rfl ?_
          refine EV.l (lv' := [(0, _), (1, _), (2, _), (3, _), (4, _), (5, _)]) r_X11_termGoes_42 rfl ?_
          refine EV.l (lv' := [(0, _), (1, _), (2, _), (3, _), (4, _), (5, _)]) r_X11_termGoes_43 rfl ?_
          refine EV.getV r_X11_termGoes_44 la_106 (mcD1.nb) ?_
          refine EV.ci r_X11_termGoes_47 (aV1 mt_280 la_106) (m_draws q1 (by omega) (by omega) (by omega)) (fun v2 D2 hD2 => ?_)
          obtain ⟨e, eD2⟩ := hD2
          subst e
          have q2 : D2 106 53 = (sdN (sdN (trm κ l q (s, η) t).1)) := by rw [eD2]; exact wr_same
          have gD2 : FRT D1 D2 := by rw [eD2]; exact FRT.dr
          have fD2 : FRT I1 D2 := fD1.tr gD2
          have mcD2 := fD2.mc mcx
          have mrD2 : MR 126 κ (trm κ l q (s, η) t).2 D2 := mrD1.fr (by rw [eD2]; exact wr_row (by decide))
          have dq2 := @dr_lt (sdN (sdN (trm κ l q (s, η) t).1))
          refine EV.l (lv' := [(0, _), (1, _), (2, _), (3, _), (4, _), (5, _), (6, _)]) r_X11_termGoes_50 rfl ?_
          refine EV.l (lv' := [(0, _), (1, _), (2, _), (3, _), (4, _), (5, _), (6, _)]) r_X11_termGoes_52 rfl ?_
          refine EV.o r_X11_termGoes_53 (bpN (16) 16) ?_
          refine EV.ci r_X11_termGoes_55 (aV1 mt_280 la_106) (m_draws q2 (by omega) (by omega) (by omega)) (fun v3 D3 hD3 => ?_)
          obtain ⟨e, eD3⟩ := hD3
          subst e
          have q3 : D3 106 53 = (sdN (sdN (sdN (trm κ l q (s, η) t).1))) := by rw [eD3]; exact wr_same
          have gD3 : FRT D2 D3 := by rw [eD3]; exact FRT.dr
          have fD3 : FRT I1 D3 := fD2.tr gD3
          have mcD3 := fD3.mc mcx
          have mrD3 : MR 126 κ (trm κ l q (s, η) t).2 D3 := mrD2.fr (by rw [eD3]; exact wr_row (by decide))
          have dq3 := @dr_lt (sdN (sdN (sdN (trm κ l q (s, η) t).1)))
          refine EV.l (lv' := [(0, _), (1, _), (2, _), (3, _), (4, _), (5, _), (6, _)]) r_X11_termGoes_58 rfl ?_
          have dz := @dq3 16 (by omega)
          refine EV.n2_ge r_X11_termGoes_59 (fun h59 => ?_) (fun h59 => ?_)
          · -- 59 t
            refine EV.l (lv' := [(0, _), (1, _), (2, _), (3, _), (4, _), (5, _), (6, _)]) r_X11_termGoes_82 rfl ?_
            refine EV.l (lv' := [(0, _), (1, _), (2, _), (3, _), (4, _), (5, _), (6, _)]) r_X11_termGoes_83 rfl ?_
            refine EV.l (lv' := [(0, _), (1, _), (2, _), (3, _), (4, _), (5, _), (6, _)]) r_X11_termGoes_85 rfl ?_
            refine EV.ci r_X11_termGoes_87 (aV2 mt_227 la_106) (m_called cb mrD3 ho1.1 (by exact dq1 (by omega)) (by exact dq2 (by omega)) (by omega)) (fun v9 I9 h9 => ?_)
            obtain ⟨e9, h9a, h9b⟩ := h9
            refine EV.o r_X11_termGoes_90 rfl ?_
            obtain ⟨hA, hS, hF⟩ : MR 126 κ (trP κ l q (trm κ l q (s, η) t)).2 I9 ∧ I9 106 53 = (trP κ l q (trm κ l q (s, η) t)).1 ∧ FRT I I9 := by first | (rw [trP_f (by omega)]; exact ⟨mrx, sq, fx⟩) | (rw [trP_t (by omega) (by omega), trB_l2 (by omega)]; exact ⟨h9a.ite, (congrFun (h9b 106 (by decide)) 53).trans q4, fx.tr (fD4.tr (FRT.s1 h9b))⟩) | (rw [trP_t (by omega) (by omega), trB_c2 (by omega)]; exact ⟨h9a.ite, (congrFun (h9b 106 (by decide)) 53).trans q3, fx.tr (fD3.tr (FRT.s1 h9b))⟩)
            have mcy := hF.mc mc_; have mly := hF.ml ml_
            have ho2 := trP_ok (q := q) ho1
            refine EV.l (lv' := [(0, _), (1, _), (2, _), (3, _), (4, _)]) r_X11_termGoes_91 rfl ?_
            refine EV.getV r_X11_termGoes_92 la_106 (mcy.ns) ?_
            refine EV.n0_le r_X11_termGoes_95 (fun h95 => ?_) (fun h95 => ?_)
            · -- 95 t
              obtain ⟨hB, hT, hG⟩ : MR 126 κ (trQ κ l (trP κ l q (trm κ l q (s, η) t))).2 I9 ∧ I9 106 53 = (trQ κ l (trP κ l q (trm κ l q (s, η) t))).1 ∧ FRT I I9 := by first | (rw [trQ_f (by omega)]; exact ⟨hA, hS, hF⟩) | (rw [trQ_t (by omega)]; exact ⟨h7a.ite, (congrFun (h7b 106 (by decide) (by decide) (by decide)) 53).trans s6, hF.tr (fE.tr (FRT.s3 h7b))⟩)
              refine EV.l (lv' := [(0, _), (1, _), (2, _), (3, _), (4, _)]) r_X11_termGoes_111 rfl ?_
              refine EV.gR r_X11_termGoes_112 la_106 ?_
              refine EV.o r_X11_termGoes_115 (bpN (30) 30) ?_
              refine EV.o r_X11_termGoes_117 rfl ?_
              refine EV.iaN r_X11_termGoes_118 la_126 (hB.mi) ?_
              refine EV.o r_X11_termGoes_119 (icN (1) (v := 1)) ?_
              refine EV.o r_X11_termGoes_120 iaddN ?_
              refine EV.iaSn r_X11_termGoes_121 la_126 (fun I8 e8 => ?_)
              refine EV.l (lv' := [(0, _), (1, _), (2, _), (3, _), (4, _)]) r_X11_termGoes_122 rfl ?_
              rw [inc_nI]
              refine EV.g r_X11_termGoes_125 ?_
              refine EV.sub ?_ rfl ?_ (ih12 (t + 1, I8) ?_ ?_)
              · (try dsimp only) <;> (rfl)
              · (try dsimp only) <;> (rfl)
              · (try dsimp only) <;> (omega)
              · (try dsimp only) <;> (subst e8; exact ⟨by omega, hB.pmi cb, (wr_ne (Or.inl (by decide))).trans hT, hG.tr (FRT.s1 (fun x hx => wr_row hx))⟩)
            · -- 95 f
              refine EV.l (lv' := [(0, _), (1, _), (2, _), (3, _), (4, _)]) r_X11_termGoes_98 rfl ?_
              refine EV.l (lv' := [(0, _), (1, _), (2, _), (3, _), (4, _)]) r_X11_termGoes_99 rfl ?_
              refine EV.l (lv' := [(0, _), (1, _), (2, _), (3, _), (4, _)]) r_X11_termGoes_100 rfl ?_
              refine EV.getV r_X11_termGoes_101 la_106 (mcy.ns) ?_
              refine EV.ci r_X11_termGoes_104 (aV1 mt_280 la_106) (m_draws hS (by omega) (by omega) (by omega)) (fun v6 E1 h6 => ?_)
              obtain ⟨e, e6⟩ := h6
              subst e
              have fE : FRT I9 E1 := by rw [e6]; exact FRT.dr
              have mcE := fE.mc mcy; have mlE := fE.ml mly
              have mrE : MR 126 κ (trP κ l q (trm κ l q (s, η) t)).2 E1 := hA.fr (by rw [e6]; exact wr_row (by decide))
              have s6 : E1 106 53 = sdN (trP κ l q (trm κ l q (s, η) t)).1 := by rw [e6]; exact wr_same
              have di : dr (sdN (trP κ l q (trm κ l q (s, η) t)).1) κ.ns < κ.ns := dr_lt (by omega)
              refine EV.ci r_X11_termGoes_107 (aV1 mt_231 la_106) (m_note cb mrE ho2.1 mcE mlE lb ho2.2.1 (by omega) (by omega)) (fun v7 I7 h7 => ?_)
              obtain ⟨e7, h7a, h7b⟩ := h7
              refine EV.o r_X11_termGoes_110 rfl ?_
              obtain ⟨hB, hT, hG⟩ : MR 126 κ (trQ κ l (trP κ l q (trm κ l q (s, η) t))).2 I7 ∧ I7 106 53 = (trQ κ l (trP κ l q (trm κ l q (s, η) t))).1 ∧ FRT I I7 := by first | (rw [trQ_f (by omega)]; exact ⟨hA, hS, hF⟩) | (rw [trQ_t (by omega)]; exact ⟨h7a.ite, (congrFun (h7b 106 (by decide) (by decide) (by decide)) 53).trans s6, hF.tr (fE.tr (FRT.s3 h7b))⟩)
              refine EV.l (lv' := [(0, _), (1, _), (2, _), (3, _), (4, _)]) r_X11_termGoes_111 rfl ?_
              refine EV.gR r_X11_termGoes_112 la_106 ?_
              refine EV.o r_X11_termGoes_115 (bpN (30) 30) ?_
              refine EV.o r_X11_termGoes_117 rfl ?_
              refine EV.iaN r_X11_termGoes_118 la_126 (hB.mi) ?_
              refine EV.o r_X11_termGoes_119 (icN (1) (v := 1)) ?_
              refine EV.o r_X11_termGoes_120 iaddN ?_
              refine EV.iaSn r_X11_termGoes_121 la_126 (fun I8 e8 => ?_)
              refine EV.l (lv' := [(0, _), (1, _), (2, _), (3, _), (4, _)]) r_X11_termGoes_122 rfl ?_
              rw [inc_nI]
              refine EV.g r_X11_termGoes_125 ?_
              refine EV.sub ?_ rfl ?_ (ih12 (t + 1, I8) ?_ ?_)
              · (try dsimp only) <;> (rfl)
              · (try dsimp only) <;> (rfl)
              · (try dsimp only) <;> (omega)
              · (try dsimp only) <;> (subst e8; exact ⟨by omega, hB.pmi cb, (wr_ne (Or.inl (by decide))).trans hT, hG.tr (FRT.s1 (fun x hx => wr_row hx))⟩)
          · -- 59 f
            refine EV.l (lv' := [(0, _), (1, _), (2, _), (3, _), (4, _), (5, _), (6, _)]) r_X11_termGoes_62 rfl ?_
            refine EV.l (lv' := [(0, _), (1, _), (2, _), (3, _), (4, _), (5, _), (6, _)]) r_X11_termGoes_63 rfl ?_
            refine EV.l (lv' := [(0, _), (1, _), (2, _), (3, _), (4, _), (5, _), (6, _)]) r_X11_termGoes_65 rfl ?_
            refine EV.o r_X11_termGoes_67 (icN (1) (v := 1)) ?_
            refine EV.l (lv' := [(0, _), (1, _), (2, _), (3, _), (4, _), (5, _), (6, _)]) r_X11_termGoes_68 rfl ?_
            refine EV.o r_X11_termGoes_69 (bpN (9) 9) ?_
            refine EV.ci r_X11_termGoes_71 (aV1 mt_280 la_106) (m_draws q3 (by omega) (by omega) (by omega)) (fun v4 D4 hD4 => ?_)
            obtain ⟨e, eD4⟩ := hD4
            subst e
            have q4 : D4 106 53 = (sdN (sdN (sdN (sdN (trm κ l q (s, η) t).1)))) := by rw [eD4]; exact wr_same
            have gD4 : FRT D3 D4 := by rw [eD4]; exact FRT.dr
            have fD4 : FRT I1 D4 := fD3.tr gD4
            have mcD4 := fD4.mc mcx
            have mrD4 : MR 126 κ (trm κ l q (s, η) t).2 D4 := mrD3.fr (by rw [eD4]; exact wr_row (by decide))
            have dq4 := @dr_lt (sdN (sdN (sdN (sdN (trm κ l q (s, η) t).1))))
            refine EV.o r_X11_termGoes_74 iaddN ?_
            refine EV.ci r_X11_termGoes_75 (aV3 mt_229 la_106) (m_led cb mrD4 ho1.1 (by exact dq1 (by omega)) (by exact dq2 (by omega)) (by have := @dq4 9 (by omega); omega) (by omega)) (fun v9 I9 h9 => ?_)
            obtain ⟨e9, h9a, h9b⟩ := h9
            refine EV.o r_X11_termGoes_78 rfl ?_
            refine EV.g r_X11_termGoes_79 ?_
            obtain ⟨hA, hS, hF⟩ : MR 126 κ (trP κ l q (trm κ l q (s, η) t)).2 I9 ∧ I9 106 53 = (trP κ l q (trm κ l q (s, η) t)).1 ∧ FRT I I9 := by first | (rw [trP_f (by omega)]; exact ⟨mrx, sq, fx⟩) | (rw [trP_t (by omega) (by omega), trB_l2 (by omega)]; exact ⟨h9a.ite, (congrFun (h9b 106 (by decide)) 53).trans q4, fx.tr (fD4.tr (FRT.s1 h9b))⟩) | (rw [trP_t (by omega) (by omega), trB_c2 (by omega)]; exact ⟨h9a.ite, (congrFun (h9b 106 (by decide)) 53).trans q3, fx.tr (fD3.tr (FRT.s1 h9b))⟩)
            have mcy := hF.mc mc_; have mly := hF.ml ml_
            have ho2 := trP_ok (q := q) ho1
            refine EV.l (lv' := [(0, _), (1, _), (2, _), (3, _), (4, _)]) r_X11_termGoes_91 rfl ?_
            refine EV.getV r_X11_termGoes_92 la_106 (mcy.ns) ?_
            refine EV.n0_le r_X11_termGoes_95 (fun h95 => ?_) (fun h95 => ?_)
            · -- 95 t
              obtain ⟨hB, hT, hG⟩ : MR 126 κ (trQ κ l (trP κ l q (trm κ l q (s, η) t))).2 I9 ∧ I9 106 53 = (trQ κ l (trP κ l q (trm κ l q (s, η) t))).1 ∧ FRT I I9 := by first | (rw [trQ_f (by omega)]; exact ⟨hA, hS, hF⟩) | (rw [trQ_t (by omega)]; exact ⟨h7a.ite, (congrFun (h7b 106 (by decide) (by decide) (by decide)) 53).trans s6, hF.tr (fE.tr (FRT.s3 h7b))⟩)
              refine EV.l (lv' := [(0, _), (1, _), (2, _), (3, _), (4, _)]) r_X11_termGoes_111 rfl ?_
              refine EV.gR r_X11_termGoes_112 la_106 ?_
              refine EV.o r_X11_termGoes_115 (bpN (30) 30) ?_
              refine EV.o r_X11_termGoes_117 rfl ?_
              refine EV.iaN r_X11_termGoes_118 la_126 (hB.mi) ?_
              refine EV.o r_X11_termGoes_119 (icN (1) (v := 1)) ?_
              refine EV.o r_X11_termGoes_120 iaddN ?_
              refine EV.iaSn r_X11_termGoes_121 la_126 (fun I8 e8 => ?_)
              refine EV.l (lv' := [(0, _), (1, _), (2, _), (3, _), (4, _)]) r_X11_termGoes_122 rfl ?_
              rw [inc_nI]
              refine EV.g r_X11_termGoes_125 ?_
              refine EV.sub ?_ rfl ?_ (ih12 (t + 1, I8) ?_ ?_)
              · (try dsimp only) <;> (rfl)
              · (try dsimp only) <;> (rfl)
              · (try dsimp only) <;> (omega)
              · (try dsimp only) <;> (subst e8; exact ⟨by omega, hB.pmi cb, (wr_ne (Or.inl (by decide))).trans hT, hG.tr (FRT.s1 (fun x hx => wr_row hx))⟩)
            · -- 95 f
              refine EV.l (lv' := [(0, _), (1, _), (2, _), (3, _), (4, _)]) r_X11_termGoes_98 rfl ?_
              refine EV.l (lv' := [(0, _), (1, _), (2, _), (3, _), (4, _)]) r_X11_termGoes_99 rfl ?_
              refine EV.l (lv' := [(0, _), (1, _), (2, _), (3, _), (4, _)]) r_X11_termGoes_100 rfl ?_
              refine EV.getV r_X11_termGoes_101 la_106 (mcy.ns) ?_
              refine EV.ci r_X11_termGoes_104 (aV1 mt_280 la_106) (m_draws hS (by omega) (by omega) (by omega)) (fun v6 E1 h6 => ?_)
              obtain ⟨e, e6⟩ := h6
              subst e
              have fE : FRT I9 E1 := by rw [e6]; exact FRT.dr
              have mcE := fE.mc mcy; have mlE := fE.ml mly
              have mrE : MR 126 κ (trP κ l q (trm κ l q (s, η) t)).2 E1 := hA.fr (by rw [e6]; exact wr_row (by decide))
              have s6 : E1 106 53 = sdN (trP κ l q (trm κ l q (s, η) t)).1 := by rw [e6]; exact wr_same
              have di : dr (sdN (trP κ l q (trm κ l q (s, η) t)).1) κ.ns < κ.ns := dr_lt (by omega)
              refine EV.ci r_X11_termGoes_107 (aV1 mt_231 la_106) (m_note cb mrE ho2.1 mcE mlE lb ho2.2.1 (by omega) (by omega)) (fun v7 I7 h7 => ?_)
              obtain ⟨e7, h7a, h7b⟩ := h7
              refine EV.o r_X11_termGoes_110 rfl ?_
              obtain ⟨hB, hT, hG⟩ : MR 126 κ (trQ κ l (trP κ l q (trm κ l q (s, η) t))).2 I7 ∧ I7 106 53 = (trQ κ l (trP κ l q (trm κ l q (s, η) t))).1 ∧ FRT I I7 := by first | (rw [trQ_f (by omega)]; exact ⟨hA, hS, hF⟩) | (rw [trQ_t (by omega)]; exact ⟨h7a.ite, (congrFun (h7b 106 (by decide) (by decide) (by decide)) 53).trans s6, hF.tr (fE.tr (FRT.s3 h7b))⟩)
              refine EV.l (lv' := [(0, _), (1, _), (2, _), (3, _), (4, _)]) r_X11_termGoes_111 rfl ?_
              refine EV.gR r_X11_termGoes_112 la_106 ?_
              refine EV.o r_X11_termGoes_115 (bpN (30) 30) ?_
              refine EV.o r_X11_termGoes_117 rfl ?_
              refine EV.iaN r_X11_termGoes_118 la_126 (hB.mi) ?_
              refine EV.o r_X11_termGoes_119 (icN (1) (v := 1)) ?_
              refine EV.o r_X11_termGoes_120 iaddN ?_
              refine EV.iaSn r_X11_termGoes_121 la_126 (fun I8 e8 => ?_)
              refine EV.l (lv' := [(0, _), (1, _), (2, _), (3, _), (4, _)]) r_X11_termGoes_122 rfl ?_
              rw [inc_nI]
              refine EV.g r_X11_termGoes_125 ?_
              refine EV.sub ?_ rfl ?_ (ih12 (t + 1, I8) ?_ ?_)
              · (try dsimp only) <;> (rfl)
              · (try dsimp only) <;> (rfl)
              · (try dsimp only) <;> (omega)
              · (try dsimp only) <;> (subst e8; exact ⟨by omega, hB.pmi cb, (wr_ne (Or.inl (by decide))).trans hT, hG.tr (FRT.s1 (fun x hx => wr_row hx))⟩)
  have h0 := L12 ((0, I3))
  try dsimp only at h0
  refine EV.sub ?_ rfl ?_ (h0 ?_)
  · (try dsimp only) <;> (rfl)
  · (try dsimp only) <;> (rfl)
  · (try dsimp only) <;> (exact ⟨Nat.zero_le _, mr3, s3, f3⟩)
theorem m_isTerm1 {d : Nat} {I : Nat → Nat → Int32} {J : Nat → Nat → Int64} {q n : Nat} (hq : q ≤ 16) (h1 : 1 ≤ n) (h2 : n ≤ 48)  (hd : 1 ≤ d) : RV d 282 [.int (nI q), .int (nI n)] I J (nI 1) := by
  refine RV.in (d0 := 0) hd mt_282 (Nat.le_of_ble_eq_true rfl) (fun d' hd' => ?_)
  show EV none M_X11_isTerm d' 0 [(0, .int (nI q)), (1, .int (nI n))] [] (hp I J) _
  refine EV.l (lv' := [(0, _), (1, _)]) r_X11_isTerm_0 rfl ?_
  refine EV.n0_lt r_X11_isTerm_1 (fun h1 => ?_) (fun h1 => ?_)
  · omega
  · -- 1 f
    refine EV.l (lv' := [(0, _), (1, _)]) r_X11_isTerm_4 rfl ?_
    refine EV.o r_X11_isTerm_5 (bpN (16) 16) ?_
    refine EV.n2_gt r_X11_isTerm_7 (fun h7 => ?_) (fun h7 => ?_)
    · omega
    · -- 7 f
      refine EV.l (lv' := [(0, _), (1, _)]) r_X11_isTerm_10 rfl ?_
      refine EV.o r_X11_isTerm_11 (icN (1) (v := 1)) ?_
      refine EV.n2_lt r_X11_isTerm_12 (fun h12 => ?_) (fun h12 => ?_)
      · omega
      · -- 12 f
        refine EV.l (lv' := [(0, _), (1, _)]) r_X11_isTerm_15 rfl ?_
        refine EV.o r_X11_isTerm_16 (bpN (48) 48) ?_
        refine EV.n2_gt r_X11_isTerm_18 (fun h18 => ?_) (fun h18 => ?_)
        · omega
        · -- 18 f
          refine EV.o r_X11_isTerm_21 (icN (1) (v := 1)) ?_
          refine EV.g r_X11_isTerm_22 ?_
          exact EV.rv r_X11_isTerm_26 (rfl)
theorem m_isTermZ {d : Nat} {I : Nat → Nat → Int32} {J : Nat → Nat → Int64} {q : Int} (q1 : -2147483648 ≤ q) (q2 : q < 2147483648) {n : Int} (n1 : -2147483648 ≤ n) (n2 : n < 2147483648)  (hd : 1 ≤ d) : RV d 282 [.int (zI q), .int (zI n)] I J (bI (decide (0 ≤ q ∧ q ≤ 16 ∧ 1 ≤ n ∧ n ≤ 48))) := by
  refine RV.in (d0 := 0) hd mt_282 (Nat.le_of_ble_eq_true rfl) (fun d' hd' => ?_)
  show EV none M_X11_isTerm d' 0 [(0, .int (zI q)), (1, .int (zI n))] [] (hp I J) _
  refine EV.l (lv' := [(0, _), (1, _)]) r_X11_isTerm_0 rfl ?_
  refine EV.z0_lt r_X11_isTerm_1 (fun h1 => ?_) (fun h1 => ?_)
  · -- 1 t
    refine EV.o r_X11_isTerm_25 (icN (0) (v := 0)) ?_
    exact EV.rv r_X11_isTerm_26 (by first | (rw [decide_eq_true (by omega)]; rfl) | (rw [decide_eq_false (by omega)]; rfl))
  · -- 1 f
    refine EV.l (lv' := [(0, _), (1, _)]) r_X11_isTerm_4 rfl ?_
    refine EV.o r_X11_isTerm_5 (bpN (16) 16) ?_
    refine EV.zn2_gt r_X11_isTerm_7 (fun h7 => ?_) (fun h7 => ?_)
    · -- 7 t
      refine EV.o r_X11_isTerm_25 (icN (0) (v := 0)) ?_
      exact EV.rv r_X11_isTerm_26 (by first | (rw [decide_eq_true (by omega)]; rfl) | (rw [decide_eq_false (by omega)]; rfl))
    · -- 7 f
      refine EV.l (lv' := [(0, _), (1, _)]) r_X11_isTerm_10 rfl ?_
      refine EV.o r_X11_isTerm_11 (icN (1) (v := 1)) ?_
      refine EV.zn2_lt r_X11_isTerm_12 (fun h12 => ?_) (fun h12 => ?_)
      · -- 12 t
        refine EV.o r_X11_isTerm_25 (icN (0) (v := 0)) ?_
        exact EV.rv r_X11_isTerm_26 (by first | (rw [decide_eq_true (by omega)]; rfl) | (rw [decide_eq_false (by omega)]; rfl))
      · -- 12 f
        refine EV.l (lv' := [(0, _), (1, _)]) r_X11_isTerm_15 rfl ?_
        refine EV.o r_X11_isTerm_16 (bpN (48) 48) ?_
        refine EV.zn2_gt r_X11_isTerm_18 (fun h18 => ?_) (fun h18 => ?_)
        · -- 18 t
          refine EV.o r_X11_isTerm_25 (icN (0) (v := 0)) ?_
          exact EV.rv r_X11_isTerm_26 (by first | (rw [decide_eq_true (by omega)]; rfl) | (rw [decide_eq_false (by omega)]; rfl))
        · -- 18 f
          refine EV.o r_X11_isTerm_21 (icN (1) (v := 1)) ?_
          refine EV.g r_X11_isTerm_22 ?_
          exact EV.rv r_X11_isTerm_26 (by first | (rw [decide_eq_true (by omega)]; rfl) | (rw [decide_eq_false (by omega)]; rfl))
theorem m_term0 {d : Nat} {I : Nat → Nat → Int32} {J : Nat → Nat → Int64} {κ : CT} {l : LW} {η : HS} (mc_ : MC κ I) (cb : CB κ) (mr : MR 125 κ η I) (ml_ : ML l I) (lb : LB l) (ho : hOk κ l η η.mi) (h4 : η.mi ≤ 400) {s : Int32} {q n : Nat} (hq : q ≤ 16) (h1 : 1 ≤ n) (h2 : n ≤ 48)  (hd : 16 ≤ d) : RI d 283 [.ref 106, .int s, .int (nI q), .int (nI n), .int (nI 0)] I J (fun v I' => v = nI (cnt κ (trm κ l q (s, η) n).2) ∧ FR I I' ∧ I' 106 0 = nI 0) := by
  refine RI.in (d0 := 15) hd mt_283 (Nat.le_of_ble_eq_true rfl) (fun d' hd' => ?_)
  have bns := cb.ns; have bnb := cb.nb; have bnc := cb.nc; have bnr := cb.nr
  have mc1 := wr0_mc (v := nI 0) mc_; have mr1 := MR.fr (I' := wr I 106 0 (nI 0)) mr (wr_row (by decide)); have ml1 := ml_.fr0 (I' := wr I 106 0 (nI 0)) (fun _ hj => wr_ne (Or.inr hj)) rfl rfl
  show EV none M_X11_term d' 0 [(0, .ref 106), (1, .int s), (2, .int (nI q)), (3, .int (nI n)), (4, .int (nI 0))] [] (hp I J) _
  refine EV.l (lv' := [(0, _), (1, _), (2, _), (3, _), (4, _)]) r_X11_term_0 rfl ?_
  refine EV.o r_X11_term_1 (icN (0) (v := 0)) ?_
  refine EV.pI r_X11_term_2 la_106 ?_
  refine EV.l (lv' := [(0, _), (1, _), (2, _), (3, _), (4, _)]) r_X11_term_5 rfl ?_
  refine EV.l (lv' := [(0, _), (1, _), (2, _), (3, _), (4, _)]) r_X11_term_6 rfl ?_
  refine EV.l (lv' := [(0, _), (1, _), (2, _), (3, _), (4, _)]) r_X11_term_7 rfl ?_
  refine EV.cv r_X11_term_8 (aS2 mt_282) (m_isTerm1 hq h1 h2 (by omega)) ?_
  refine EV.n0_eq r_X11_term_11 (fun h11 => ?_) (fun h11 => ?_)
  · omega
  · -- 11 f
    refine EV.l (lv' := [(0, _), (1, _), (2, _), (3, _), (4, _)]) r_X11_term_14 rfl ?_
    refine EV.o r_X11_term_16 (icN (0) (v := 0)) ?_
    refine EV.o r_X11_term_17 (icN (3) (v := 3)) ?_
    refine EV.cv r_X11_term_18 (aS3 mt_170) (m_wNNN (by omega) (by omega) (by omega) (by omega)) ?_
    refine EV.p0_eq r_X11_term_21 (fun h21 => ?_) (fun h21 => ?_)
    · -- 21 t
      refine EV.o r_X11_term_28 (icN (0) (v := 0)) ?_
      refine EV.o r_X11_term_29 (icN (1) (v := 1)) ?_
      refine EV.o r_X11_term_30 (icN (1) (v := 1)) ?_
      omega
    · -- 21 f
      refine EV.o r_X11_term_24 (icN (1) (v := 1)) ?_
      refine EV.g r_X11_term_25 ?_
      refine EV.o r_X11_term_29 (icN (1) (v := 1)) ?_
      refine EV.o r_X11_term_30 (icN (1) (v := 1)) ?_
      refine EV.cv r_X11_term_31 (aV3 mt_169 la_106) (m_mayN wr_same (by omega)) ?_
      refine EV.n0_ne r_X11_term_34 (fun h34 => ?_) (fun h34 => ?_)
      · -- 34 t
        refine EV.l (lv' := [(0, _), (1, _), (2, _), (3, _), (4, _)]) r_X11_term_39 rfl ?_
        refine EV.l (lv' := [(0, _), (1, _), (2, _), (3, _), (4, _)]) r_X11_term_40 rfl ?_
        refine EV.l (lv' := [(0, _), (1, _), (2, _), (3, _), (4, _)]) r_X11_term_41 rfl ?_
        refine EV.l (lv' := [(0, _), (1, _), (2, _), (3, _), (4, _)]) r_X11_term_42 rfl ?_
        refine EV.cu r_X11_term_43 (aV3 mt_281 la_106) (m_termGoes mc1 cb mr1 ml1 lb ho h4 (s := s) hq h2 (by omega)) (fun I3 h3 => ?_)
        obtain ⟨mr3, f3⟩ := h3
        have mc3 := f3.mc mc1; have ml3 := f3.ml ml1
        have hk3 := trm_ok (q := q) (p := (s, η)) ho h4 n h2; have hb3 := hk3.1; have wm3 := hk3.2.1; have bm3 := hb3.mi
        refine EV.l (lv' := [(0, _), (1, _), (2, _), (3, _), (4, _)]) r_X11_term_46 rfl ?_
        refine EV.n0_ne r_X11_term_48 (fun h48 => ?_) (fun h48 => ?_)
        · omega
        · -- 48 f
          refine EV.l (lv' := [(0, _), (1, _), (2, _), (3, _), (4, _)]) r_X11_term_51 rfl ?_
          refine EV.ci r_X11_term_52 (aV0 mt_221 la_106) (m_countsNow mc3 cb mr3 hb3 ml3 lb (by omega)) (fun v I4 h4_ => ?_)
          obtain ⟨e, fr4⟩ := h4_
          subst e
          rw [cn_eq hb3 wm3]
          have f4 := f3.tr (FRT.m2 fr4)
          refine EV.g r_X11_term_55 ?_
          exact EV.ri r_X11_term_105 (⟨rfl, f4.fr (fun x hx => wr_row hx) (fun j hj => wr_ne (Or.inr hj)), (f4.2 0 (by decide)).trans wr_same⟩)
      · omega
theorem m_term1 {d : Nat} {I : Nat → Nat → Int32} {J : Nat → Nat → Int64} {κ : CT} {l : LW} {η : HS} (mc_ : MC κ I) (cb : CB κ) (mr : MR 125 κ η I) (ml_ : ML l I) (lb : LB l) (ho : hOk κ l η η.mi) (h4 : η.mi ≤ 400) {s : Int32} {q n : Nat} (hq : q ≤ 16) (h1 : 1 ≤ n) (h2 : n ≤ 48)  (hd : 16 ≤ d) : RI d 283 [.ref 106, .int s, .int (nI q), .int (nI n), .int (nI 1)] I J (fun v I' => v = zI (lean κ (heard κ (trm κ l q (s, η) n).2 (trm κ l q (s, η) n).2.mi)) ∧ FR I I' ∧ I' 106 0 = nI 0) := by
  refine RI.in (d0 := 15) hd mt_283 (Nat.le_of_ble_eq_true rfl) (fun d' hd' => ?_)
  have bns := cb.ns; have bnb := cb.nb; have bnc := cb.nc; have bnr := cb.nr
  have mc1 := wr0_mc (v := nI 0) mc_; have mr1 := MR.fr (I' := wr I 106 0 (nI 0)) mr (wr_row (by decide)); have ml1 := ml_.fr0 (I' := wr I 106 0 (nI 0)) (fun _ hj => wr_ne (Or.inr hj)) rfl rfl
  show EV none M_X11_term d' 0 [(0, .ref 106), (1, .int s), (2, .int (nI q)), (3, .int (nI n)), (4, .int (nI 1))] [] (hp I J) _
  refine EV.l (lv' := [(0, _), (1, _), (2, _), (3, _), (4, _)]) r_X11_term_0 rfl ?_
  refine EV.o r_X11_term_1 (icN (0) (v := 0)) ?_
  refine EV.pI r_X11_term_2 la_106 ?_
  refine EV.l (lv' := [(0, _), (1, _), (2, _), (3, _), (4, _)]) r_X11_term_5 rfl ?_
  refine EV.l (lv' := [(0, _), (1, _), (2, _), (3, _), (4, _)]) r_X11_term_6 rfl ?_
  refine EV.l (lv' := [(0, _), (1, _), (2, _), (3, _), (4, _)]) r_X11_term_7 rfl ?_
  refine EV.cv r_X11_term_8 (aS2 mt_282) (m_isTerm1 hq h1 h2 (by omega)) ?_
  refine EV.n0_eq r_X11_term_11 (fun h11 => ?_) (fun h11 => ?_)
  · omega
  · -- 11 f
    refine EV.l (lv' := [(0, _), (1, _), (2, _), (3, _), (4, _)]) r_X11_term_14 rfl ?_
    refine EV.o r_X11_term_16 (icN (0) (v := 0)) ?_
    refine EV.o r_X11_term_17 (icN (3) (v := 3)) ?_
    refine EV.cv r_X11_term_18 (aS3 mt_170) (m_wNNN (by omega) (by omega) (by omega) (by omega)) ?_
    refine EV.p0_eq r_X11_term_21 (fun h21 => ?_) (fun h21 => ?_)
    · -- 21 t
      refine EV.o r_X11_term_28 (icN (0) (v := 0)) ?_
      refine EV.o r_X11_term_29 (icN (1) (v := 1)) ?_
      refine EV.o r_X11_term_30 (icN (1) (v := 1)) ?_
      omega
    · -- 21 f
      refine EV.o r_X11_term_24 (icN (1) (v := 1)) ?_
      refine EV.g r_X11_term_25 ?_
      refine EV.o r_X11_term_29 (icN (1) (v := 1)) ?_
      refine EV.o r_X11_term_30 (icN (1) (v := 1)) ?_
      refine EV.cv r_X11_term_31 (aV3 mt_169 la_106) (m_mayN wr_same (by omega)) ?_
      refine EV.n0_ne r_X11_term_34 (fun h34 => ?_) (fun h34 => ?_)
      · -- 34 t
        refine EV.l (lv' := [(0, _), (1, _), (2, _), (3, _), (4, _)]) r_X11_term_39 rfl ?_
        refine EV.l (lv' := [(0, _), (1, _), (2, _), (3, _), (4, _)]) r_X11_term_40 rfl ?_
        refine EV.l (lv' := [(0, _), (1, _), (2, _), (3, _), (4, _)]) r_X11_term_41 rfl ?_
        refine EV.l (lv' := [(0, _), (1, _), (2, _), (3, _), (4, _)]) r_X11_term_42 rfl ?_
        refine EV.cu r_X11_term_43 (aV3 mt_281 la_106) (m_termGoes mc1 cb mr1 ml1 lb ho h4 (s := s) hq h2 (by omega)) (fun I3 h3 => ?_)
        obtain ⟨mr3, f3⟩ := h3
        have mc3 := f3.mc mc1; have ml3 := f3.ml ml1
        have hk3 := trm_ok (q := q) (p := (s, η)) ho h4 n h2; have hb3 := hk3.1; have wm3 := hk3.2.1; have bm3 := hb3.mi
        refine EV.l (lv' := [(0, _), (1, _), (2, _), (3, _), (4, _)]) r_X11_term_46 rfl ?_
        refine EV.n0_ne r_X11_term_48 (fun h48 => ?_) (fun h48 => ?_)
        · -- 48 t
          refine EV.l (lv' := [(0, _), (1, _), (2, _), (3, _), (4, _)]) r_X11_term_58 rfl ?_
          refine EV.o r_X11_term_60 (icN (1) (v := 1)) ?_
          refine EV.n2_ne r_X11_term_61 (fun h61 => ?_) (fun h61 => ?_)
          · omega
          · -- 61 f
            refine EV.l (lv' := [(0, _), (1, _), (2, _), (3, _), (4, _)]) r_X11_term_64 rfl ?_
            refine EV.l (lv' := [(0, _), (1, _), (2, _), (3, _), (4, _)]) r_X11_term_65 rfl ?_
            refine EV.l (lv' := [(0, _), (1, _), (2, _), (3, _), (4, _)]) r_X11_term_66 rfl ?_
            refine EV.gR r_X11_term_67 la_106 ?_
            refine EV.o r_X11_term_70 (bpN (30) 30) ?_
            refine EV.iaN r_X11_term_72 la_126 (mr3.mi) ?_
            refine EV.ci r_X11_term_73 (aV1 mt_226 la_106) (m_heardBy mc3 cb mr3 hb3 ml3 lb (by omega) (by omega)) (fun v I4 h4_ => ?_)
            obtain ⟨e, fr4⟩ := h4_
            subst e
            rw [hd_eq hb3 wm3]
            have f4 := f3.tr (FRT.m2 fr4)
            have mc4 := (FRT.m2 fr4).mc mc3
            refine EV.cv r_X11_term_76 (aV1 mt_225 la_106) (m_lean mc4 cb (heard_lt _) (by omega)) ?_
            refine EV.g r_X11_term_79 ?_
            exact EV.ri r_X11_term_105 (⟨rfl, f4.fr (fun x hx => wr_row hx) (fun j hj => wr_ne (Or.inr hj)), (f4.2 0 (by decide)).trans wr_same⟩)
        · omega
      · omega
theorem m_term2 {d : Nat} {I : Nat → Nat → Int32} {J : Nat → Nat → Int64} {κ : CT} {l : LW} {η : HS} (mc_ : MC κ I) (cb : CB κ) (mr : MR 125 κ η I) (ml_ : ML l I) (lb : LB l) (ho : hOk κ l η η.mi) (h4 : η.mi ≤ 400) {s : Int32} {q n : Nat} (hq : q ≤ 16) (h1 : 1 ≤ n) (h2 : n ≤ 48)  (hd : 16 ≤ d) : RI d 283 [.ref 106, .int s, .int (nI q), .int (nI n), .int (nI 2)] I J (fun v I' => v = nI (trm κ l q (s, η) n).2.nt ∧ FR I I' ∧ I' 106 0 = nI 0) := by
  refine RI.in (d0 := 15) hd mt_283 (Nat.le_of_ble_eq_true rfl) (fun d' hd' => ?_)
  have bns := cb.ns; have bnb := cb.nb; have bnc := cb.nc; have bnr := cb.nr
  have mc1 := wr0_mc (v := nI 0) mc_; have mr1 := MR.fr (I' := wr I 106 0 (nI 0)) mr (wr_row (by decide)); have ml1 := ml_.fr0 (I' := wr I 106 0 (nI 0)) (fun _ hj => wr_ne (Or.inr hj)) rfl rfl
  show EV none M_X11_term d' 0 [(0, .ref 106), (1, .int s), (2, .int (nI q)), (3, .int (nI n)), (4, .int (nI 2))] [] (hp I J) _
  refine EV.l (lv' := [(0, _), (1, _), (2, _), (3, _), (4, _)]) r_X11_term_0 rfl ?_
  refine EV.o r_X11_term_1 (icN (0) (v := 0)) ?_
  refine EV.pI r_X11_term_2 la_106 ?_
  refine EV.l (lv' := [(0, _), (1, _), (2, _), (3, _), (4, _)]) r_X11_term_5 rfl ?_
  refine EV.l (lv' := [(0, _), (1, _), (2, _), (3, _), (4, _)]) r_X11_term_6 rfl ?_
  refine EV.l (lv' := [(0, _), (1, _), (2, _), (3, _), (4, _)]) r_X11_term_7 rfl ?_
  refine EV.cv r_X11_term_8 (aS2 mt_282) (m_isTerm1 hq h1 h2 (by omega)) ?_
  refine EV.n0_eq r_X11_term_11 (fun h11 => ?_) (fun h11 => ?_)
  · omega
  · -- 11 f
    refine EV.l (lv' := [(0, _), (1, _), (2, _), (3, _), (4, _)]) r_X11_term_14 rfl ?_
    refine EV.o r_X11_term_16 (icN (0) (v := 0)) ?_
    refine EV.o r_X11_term_17 (icN (3) (v := 3)) ?_
    refine EV.cv r_X11_term_18 (aS3 mt_170) (m_wNNN (by omega) (by omega) (by omega) (by omega)) ?_
    refine EV.p0_eq r_X11_term_21 (fun h21 => ?_) (fun h21 => ?_)
    · -- 21 t
      refine EV.o r_X11_term_28 (icN (0) (v := 0)) ?_
      refine EV.o r_X11_term_29 (icN (1) (v := 1)) ?_
      refine EV.o r_X11_term_30 (icN (1) (v := 1)) ?_
      omega
    · -- 21 f
      refine EV.o r_X11_term_24 (icN (1) (v := 1)) ?_
      refine EV.g r_X11_term_25 ?_
      refine EV.o r_X11_term_29 (icN (1) (v := 1)) ?_
      refine EV.o r_X11_term_30 (icN (1) (v := 1)) ?_
      refine EV.cv r_X11_term_31 (aV3 mt_169 la_106) (m_mayN wr_same (by omega)) ?_
      refine EV.n0_ne r_X11_term_34 (fun h34 => ?_) (fun h34 => ?_)
      · -- 34 t
        refine EV.l (lv' := [(0, _), (1, _), (2, _), (3, _), (4, _)]) r_X11_term_39 rfl ?_
        refine EV.l (lv' := [(0, _), (1, _), (2, _), (3, _), (4, _)]) r_X11_term_40 rfl ?_
        refine EV.l (lv' := [(0, _), (1, _), (2, _), (3, _), (4, _)]) r_X11_term_41 rfl ?_
        refine EV.l (lv' := [(0, _), (1, _), (2, _), (3, _), (4, _)]) r_X11_term_42 rfl ?_
        refine EV.cu r_X11_term_43 (aV3 mt_281 la_106) (m_termGoes mc1 cb mr1 ml1 lb ho h4 (s := s) hq h2 (by omega)) (fun I3 h3 => ?_)
        obtain ⟨mr3, f3⟩ := h3
        have mc3 := f3.mc mc1; have ml3 := f3.ml ml1
        have hk3 := trm_ok (q := q) (p := (s, η)) ho h4 n h2; have hb3 := hk3.1; have wm3 := hk3.2.1; have bm3 := hb3.mi
        refine EV.l (lv' := [(0, _), (1, _), (2, _), (3, _), (4, _)]) r_X11_term_46 rfl ?_
        refine EV.n0_ne r_X11_term_48 (fun h48 => ?_) (fun h48 => ?_)
        · -- 48 t
          refine EV.l (lv' := [(0, _), (1, _), (2, _), (3, _), (4, _)]) r_X11_term_58 rfl ?_
          refine EV.o r_X11_term_60 (icN (1) (v := 1)) ?_
          refine EV.n2_ne r_X11_term_61 (fun h61 => ?_) (fun h61 => ?_)
          · -- 61 t
            refine EV.l (lv' := [(0, _), (1, _), (2, _), (3, _), (4, _)]) r_X11_term_82 rfl ?_
            refine EV.o r_X11_term_84 (icN (2) (v := 2)) ?_
            refine EV.n2_ne r_X11_term_85 (fun h85 => ?_) (fun h85 => ?_)
            · omega
            · -- 85 f
              refine EV.l (lv' := [(0, _), (1, _), (2, _), (3, _), (4, _)]) r_X11_term_88 rfl ?_
              refine EV.cv r_X11_term_89 (aV0 mt_235 la_106) (m_noted mc3 cb mr3 hb3 (by omega)) ?_
              refine EV.g r_X11_term_92 ?_
              exact EV.ri r_X11_term_105 (⟨rfl, f3.fr (fun x hx => wr_row hx) (fun j hj => wr_ne (Or.inr hj)), (f3.2 0 (by decide)).trans wr_same⟩)
          · omega
        · omega
      · omega
