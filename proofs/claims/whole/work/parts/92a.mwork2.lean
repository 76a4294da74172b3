/-! WORK: the model. -/
theorem MR.cpd {a b : Nat} {κ : CT} {η : HS} {I I' : Nat → Nat → Int32} (cb : CB κ) (h : MR b κ η I) (e : ∀ j, j < 31 → I' a j = I b j) : MR a κ η I' := by
  have n9 := cb.ns
  have n4 := cb.nb
  have c4 := cb.nc
  exact ⟨fun j hj => (e _ (by omega)).trans (h.sa j hj), fun j hj => (e _ (by omega)).trans (h.nt j hj), fun j hj => (e _ (by omega)).trans (h.be j hj), fun j hj => (e _ (by omega)).trans (h.le j hj), fun j hj => (e _ (by omega)).trans (h.cr j hj), (e _ (by omega)).trans h.mi⟩
theorem MS.sv {a b a2 : Nat} {κ : CT} {η : HS} {I I' : Nat → Nat → Int32} (cb : CB κ) (h : MR a κ η I) (e : ∀ j, j < 31 → I' a2 (b + j) = I a j) : MS a2 b κ η I' := by
  have n9 := cb.ns
  have n4 := cb.nb
  have c4 := cb.nc
  exact ⟨fun j hj => (e _ (by omega)).trans ((congrArg (I a) (Nat.zero_add j).symm).trans (h.sa j hj)), fun j hj => (e _ (by omega)).trans (h.nt j hj), fun j hj => (e _ (by omega)).trans (h.be j hj), fun j hj => (e _ (by omega)).trans (h.le j hj), fun j hj => (e _ (by omega)).trans (h.cr j hj), (e _ (by omega)).trans h.mi⟩
theorem MIn.wrk {S : STT} {P : PL} {I I' : Nat → Nat → Int32} (h : MIn S I) (h6 : ∀ j, scf j = false → j ≠ 2 → j ≠ 8 → j ≠ 37 → j ≠ 38 → I' 106 j = I 106 j) (h2 : I' 106 2 = nI 0) (h8 : I' 106 8 = zI (-1)) (h37 : I' 106 37 = nI (S.w + 1)) (h38 : I' 106 38 = nI (wrkR S P).2.2.2) (mr : MR 125 S.κ (wrkR S P).1 I') (ps : ∀ k, k < S.w + 1 → MS 127 (31 * k) S.κ (if k = S.w then S.η else S.ps k) I') (f : ∀ o, o ≠ 106 → o ≠ 125 → o ≠ 127 → sco o = false → I' o = I o) : MIn (S.wrk P) I' := by
  have e : ∀ j, scf j = false → j ≠ 2 → j ≠ 8 → j ≠ 37 → j ≠ 38 → I' 106 j = I 106 j := h6
  exact ⟨by have z := h.mc; unfold MC at z ⊢; rw [e 22 (by decide) (by decide) (by decide) (by decide) (by decide), e 23 (by decide) (by decide) (by decide) (by decide) (by decide), e 24 (by decide) (by decide) (by decide) (by decide) (by decide), e 25 (by decide) (by decide) (by decide) (by decide) (by decide), f 113 (by decide) (by decide) (by decide) rfl, f 114 (by decide) (by decide) (by decide) rfl, f 115 (by decide) (by decide) (by decide) rfl, f 116 (by decide) (by decide) (by decide) rfl]; exact z,
    mr, h.ml.fr9 (e 32 (by decide) (by decide) (by decide) (by decide) (by decide)) (f _ (by decide) (by decide) (by decide) rfl) (f _ (by decide) (by decide) (by decide) rfl), h2, h8, by rw [f 108 (by decide) (by decide) (by decide) rfl]; exact h.tp, h38, by rw [f 107 (by decide) (by decide) (by decide) rfl]; exact h.r0, by rw [f 107 (by decide) (by decide) (by decide) rfl]; exact h.r1, (e 47 (by decide) (by decide) (by decide) (by decide) (by decide)).trans h.wt, by rw [f 129 (by decide) (by decide) (by decide) rfl]; exact h.bk, h37, (e 55 (by decide) (by decide) (by decide) (by decide) (by decide)).trans h.im,
    ps, by rw [f 134 (by decide) (by decide) (by decide) rfl]; exact h.iw, fun i hi => by have := h.ic i hi; unfold MS at this ⊢; rw [f 134 (by decide) (by decide) (by decide) rfl]; exact this, fun i k hi hk => by have := h.ip i k hi hk; unfold MS at this ⊢; rw [f 134 (by decide) (by decide) (by decide) rfl]; exact this⟩
/-- where the reading of a whole WORK stands -/
def VTI (g : Nat → Nat) (n : Nat) (κ : CT) (f : PL → Nat → WX) (R : WX) (I : Nat → Nat → Int32) (i : Nat) (x : WX) (M : Nat → Nat → Int32) : Prop := LSv g n κ 0 x M ∧ VG I M ∧ stps n enN f (150 - i) x = R ∧ ∀ s, x.2 = .inl s → i ≤ s
theorem VTI.fin {g : Nat → Nat} {n i : Nat} {κ : CT} {f : PL → Nat → WX} {R x : WX} {I M : Nat → Nat → Int32} (h : VTI g n κ f R I i x M) (e : ∀ s, x.2 = .inl s → n ≤ s) : x = R := by
  have z := h.2.2.1
  rw [stps_fin (e := enN) (Or.inr (fun s y => Or.inl (e s y)))] at z
  exact z
theorem VTI.next {g : Nat → Nat} {n i s o : Nat} {κ : CT} {f : PL → Nat → WX} {R : WX} {P : PL} {I M M2 : Nat → Nat → Int32} (h : VTI g n κ f R I i (P, .inl s) M) (pf : PGw n κ o f) (hn : n ≤ 150) (hs : s < n) (ls : LSv g n κ 0 (f P s) M2) (vg : VG M M2) : VTI g n κ f R I (i + 1) (f P s) M2 := by
  have a := h.2.2.2 s rfl
  refine ⟨ls, h.2.1.tr vg, ?_, fun s2 e2 => ?_⟩
  · rw [← h.2.2.1, show 150 - i = 150 - (i + 1) + 1 by omega, stps_go hs rfl]
  · have p := pf P s s2 hs e2
    omega
theorem okr_n {r : RST} (h : okr r = false) : ∀ s, r = .inl s → False := fun s e => by
  rw [e] at h
  exact absurd (show true = false from h) (by decide)
theorem sco_w {o : Nat} (h : sco o = false) : o ≠ 121 ∧ o ≠ 122 ∧ o ≠ 123 ∧ o ≠ 124 ∧ o ≠ 126 := ⟨fun e => by subst e; exact absurd h (by decide), fun e => by subst e; exact absurd h (by decide), fun e => by subst e; exact absurd h (by decide), fun e => by subst e; exact absurd h (by decide), fun e => by subst e; exact absurd h (by decide)⟩
theorem ls_zero {g : Nat → Nat} {n s : Nat} {κ : CT} {I I' : Nat → Nat → Int32} (tp : ∀ j, j < 600 → I 108 j = nI (g j)) (mg : MG g n s I) (op : I 106 7 = nI 0) (km : KM κ I) (e : I' = wr I 106 36 (nI 0)) : LSv g n κ 0 (pl0, .inl s) I' := by
  subst e
  exact ⟨tp_fm tp (wr_row (by decide)), MD.w (r := .inl s) mg (by decide), (wr_ne (Or.inr (by decide))).trans op, ⟨(wr_ne (Or.inr (by decide))).trans km.1, (wr_ne (Or.inr (by decide))).trans km.2.1, (wr_ne (Or.inr (by decide))).trans km.2.2⟩, fun s2 _ => ⟨⟨wr_same, fun j hj => absurd hj (Nat.not_lt_zero j)⟩, Nat.zero_le _⟩⟩
theorem r_X11_work_0 : RW M_X11_work 0 (.aload_n 0) 1 0 0 1 := ⟨rfl, rfl⟩
theorem r_X11_work_1 : RW M_X11_work 1 (.iconst 0) 1 0 0 2 := ⟨rfl, rfl⟩
theorem r_X11_work_2 : RW M_X11_work 2 (.putfield 3) 3 11 0 5 := ⟨rfl, rfl⟩
theorem r_X11_work_5 : RW M_X11_work 5 (.aload_n 0) 1 0 0 6 := ⟨rfl, rfl⟩
theorem r_X11_work_6 : RW M_X11_work 6 (.iload_n 1) 1 0 0 7 := ⟨rfl, rfl⟩
theorem r_X11_work_7 : RW M_X11_work 7 (.ifCond .lt 22) 3 29 0 10 := ⟨rfl, rfl⟩
theorem r_X11_work_10 : RW M_X11_work 10 (.iload_n 1) 1 0 0 11 := ⟨rfl, rfl⟩
theorem r_X11_work_11 : RW M_X11_work 11 (.aload_n 0) 1 0 0 12 := ⟨rfl, rfl⟩
theorem r_X11_work_12 : RW M_X11_work 12 (.getfield 108) 3 11 2 15 := ⟨rfl, rfl⟩
theorem r_X11_work_15 : RW M_X11_work 15 (.if_icmp .gt 14) 3 29 0 18 := ⟨rfl, rfl⟩
theorem r_X11_work_18 : RW M_X11_work 18 (.iload_n 1) 1 0 0 19 := ⟨rfl, rfl⟩
theorem r_X11_work_19 : RW M_X11_work 19 (.sipush 150) 3 0 0 22 := ⟨rfl, rfl⟩
theorem r_X11_work_22 : RW M_X11_work 22 (.if_icmp .gt 7) 3 29 0 25 := ⟨rfl, rfl⟩
theorem r_X11_work_25 : RW M_X11_work 25 (.iconst 1) 1 0 0 26 := ⟨rfl, rfl⟩
theorem r_X11_work_26 : RW M_X11_work 26 (.goto 4) 3 30 0 29 := ⟨rfl, rfl⟩
theorem r_X11_work_29 : RW M_X11_work 29 (.iconst 0) 1 0 0 30 := ⟨rfl, rfl⟩
theorem r_X11_work_30 : RW M_X11_work 30 (.iconst 1) 1 0 0 31 := ⟨rfl, rfl⟩
theorem r_X11_work_31 : RW M_X11_work 31 (.iconst 1) 1 0 0 32 := ⟨rfl, rfl⟩
theorem r_X11_work_32 : RW M_X11_work 32 (.invokevirtual 210) 3 169 0 35 := ⟨rfl, rfl⟩
theorem r_X11_work_35 : RW M_X11_work 35 (.ifCond .ne 5) 3 40 0 38 := ⟨rfl, rfl⟩
theorem r_X11_work_38 : RW M_X11_work 38 (.iconst 0) 1 0 0 39 := ⟨rfl, rfl⟩
theorem r_X11_work_39 : RW M_X11_work 39 (.ireturn) 1 0 0 40 := ⟨rfl, rfl⟩
theorem r_X11_work_40 : RW M_X11_work 40 (.aload_n 0) 1 0 0 41 := ⟨rfl, rfl⟩
theorem r_X11_work_41 : RW M_X11_work 41 (.iload_n 1) 1 0 0 42 := ⟨rfl, rfl⟩
theorem r_X11_work_42 : RW M_X11_work 42 (.invokevirtual 214) 3 184 0 45 := ⟨rfl, rfl⟩
theorem r_X11_work_45 : RW M_X11_work 45 (.aload_n 0) 1 0 0 46 := ⟨rfl, rfl⟩
theorem r_X11_work_46 : RW M_X11_work 46 (.getfield 188) 3 11 37 49 := ⟨rfl, rfl⟩
theorem r_X11_work_49 : RW M_X11_work 49 (.bipush 16) 2 0 0 51 := ⟨rfl, rfl⟩
theorem r_X11_work_51 : RW M_X11_work 51 (.if_icmp .ne 12) 3 63 0 54 := ⟨rfl, rfl⟩
theorem r_X11_work_54 : RW M_X11_work 54 (.aload_n 0) 1 0 0 55 := ⟨rfl, rfl⟩
theorem r_X11_work_55 : RW M_X11_work 55 (.iconst 0) 1 0 0 56 := ⟨rfl, rfl⟩
theorem r_X11_work_56 : RW M_X11_work 56 (.invokevirtual 245) 3 185 0 59 := ⟨rfl, rfl⟩
theorem r_X11_work_59 : RW M_X11_work 59 (.pop) 1 0 0 60 := ⟨rfl, rfl⟩
theorem r_X11_work_60 : RW M_X11_work 60 (.bipush (-20)) 2 0 0 62 := ⟨rfl, rfl⟩
theorem r_X11_work_62 : RW M_X11_work 62 (.ireturn) 1 0 0 63 := ⟨rfl, rfl⟩
theorem r_X11_work_63 : RW M_X11_work 63 (.aload_n 0) 1 0 0 64 := ⟨rfl, rfl⟩
theorem r_X11_work_64 : RW M_X11_work 64 (.iconst 0) 1 0 0 65 := ⟨rfl, rfl⟩
theorem r_X11_work_65 : RW M_X11_work 65 (.putfield 294) 3 11 36 68 := ⟨rfl, rfl⟩
theorem r_X11_work_68 : RW M_X11_work 68 (.aload_n 0) 1 0 0 69 := ⟨rfl, rfl⟩
theorem r_X11_work_69 : RW M_X11_work 69 (.invokevirtual 140) 3 173 0 72 := ⟨rfl, rfl⟩
theorem r_X11_work_72 : RW M_X11_work 72 (.ifCond .eq 17) 3 89 0 75 := ⟨rfl, rfl⟩
theorem r_X11_work_75 : RW M_X11_work 75 (.aload_n 0) 1 0 0 76 := ⟨rfl, rfl⟩
theorem r_X11_work_76 : RW M_X11_work 76 (.invokevirtual 218) 3 183 0 79 := ⟨rfl, rfl⟩
theorem r_X11_work_79 : RW M_X11_work 79 (.ifCond .eq 10) 3 89 0 82 := ⟨rfl, rfl⟩
theorem r_X11_work_82 : RW M_X11_work 82 (.aload_n 0) 1 0 0 83 := ⟨rfl, rfl⟩
theorem r_X11_work_83 : RW M_X11_work 83 (.invokevirtual 313) 3 209 0 86 := ⟨rfl, rfl⟩
theorem r_X11_work_86 : RW M_X11_work 86 (.goto (-18)) 3 68 0 89 := ⟨rfl, rfl⟩
theorem r_X11_work_89 : RW M_X11_work 89 (.aload_n 0) 1 0 0 90 := ⟨rfl, rfl⟩
theorem r_X11_work_90 : RW M_X11_work 90 (.iconst 0) 1 0 0 91 := ⟨rfl, rfl⟩
theorem r_X11_work_91 : RW M_X11_work 91 (.invokevirtual 245) 3 185 0 94 := ⟨rfl, rfl⟩
theorem r_X11_work_94 : RW M_X11_work 94 (.istore_n 2) 1 0 0 95 := ⟨rfl, rfl⟩
theorem r_X11_work_95 : RW M_X11_work 95 (.aload_n 0) 1 0 0 96 := ⟨rfl, rfl⟩
theorem r_X11_work_96 : RW M_X11_work 96 (.getfield 111) 3 11 5 99 := ⟨rfl, rfl⟩
theorem r_X11_work_99 : RW M_X11_work 99 (.iconst (-1)) 1 0 0 100 := ⟨rfl, rfl⟩
theorem r_X11_work_100 : RW M_X11_work 100 (.if_icmp .eq 5) 3 105 0 103 := ⟨rfl, rfl⟩
theorem r_X11_work_103 : RW M_X11_work 103 (.iload_n 2) 1 0 0 104 := ⟨rfl, rfl⟩
theorem r_X11_work_104 : RW M_X11_work 104 (.ireturn) 1 0 0 105 := ⟨rfl, rfl⟩
theorem r_X11_work_105 : RW M_X11_work 105 (.aload_n 0) 1 0 0 106 := ⟨rfl, rfl⟩
theorem r_X11_work_106 : RW M_X11_work 106 (.aload_n 0) 1 0 0 107 := ⟨rfl, rfl⟩
theorem r_X11_work_107 : RW M_X11_work 107 (.getfield 65) 3 11 34 110 := ⟨rfl, rfl⟩
theorem r_X11_work_110 : RW M_X11_work 110 (.aload_n 0) 1 0 0 111 := ⟨rfl, rfl⟩
theorem r_X11_work_111 : RW M_X11_work 111 (.getfield 68) 3 11 35 114 := ⟨rfl, rfl⟩
theorem r_X11_work_114 : RW M_X11_work 114 (.aload_n 0) 1 0 0 115 := ⟨rfl, rfl⟩
theorem r_X11_work_115 : RW M_X11_work 115 (.getfield 294) 3 11 36 118 := ⟨rfl, rfl⟩
theorem r_X11_work_118 : RW M_X11_work 118 (.invokevirtual 178) 3 187 0 121 := ⟨rfl, rfl⟩
theorem r_X11_work_121 : RW M_X11_work 121 (.iconst 0) 1 0 0 122 := ⟨rfl, rfl⟩
theorem r_X11_work_122 : RW M_X11_work 122 (.istore_n 3) 1 0 0 123 := ⟨rfl, rfl⟩
theorem r_X11_work_123 : RW M_X11_work 123 (.iload_n 3) 1 0 0 124 := ⟨rfl, rfl⟩
theorem r_X11_work_124 : RW M_X11_work 124 (.bipush 31) 2 0 0 126 := ⟨rfl, rfl⟩
theorem r_X11_work_126 : RW M_X11_work 126 (.if_icmp .ge 29) 3 155 0 129 := ⟨rfl, rfl⟩
theorem r_X11_work_129 : RW M_X11_work 129 (.aload_n 0) 1 0 0 130 := ⟨rfl, rfl⟩
theorem r_X11_work_130 : RW M_X11_work 130 (.getfield 77) 3 11 44 133 := ⟨rfl, rfl⟩
theorem r_X11_work_133 : RW M_X11_work 133 (.bipush 31) 2 0 0 135 := ⟨rfl, rfl⟩
theorem r_X11_work_135 : RW M_X11_work 135 (.aload_n 0) 1 0 0 136 := ⟨rfl, rfl⟩
theorem r_X11_work_136 : RW M_X11_work 136 (.getfield 188) 3 11 37 139 := ⟨rfl, rfl⟩
theorem r_X11_work_139 : RW M_X11_work 139 (.imul) 1 0 0 140 := ⟨rfl, rfl⟩
theorem r_X11_work_140 : RW M_X11_work 140 (.iload_n 3) 1 0 0 141 := ⟨rfl, rfl⟩
theorem r_X11_work_141 : RW M_X11_work 141 (.iadd) 1 0 0 142 := ⟨rfl, rfl⟩
theorem r_X11_work_142 : RW M_X11_work 142 (.aload_n 0) 1 0 0 143 := ⟨rfl, rfl⟩
theorem r_X11_work_143 : RW M_X11_work 143 (.getfield 71) 3 11 42 146 := ⟨rfl, rfl⟩
theorem r_X11_work_146 : RW M_X11_work 146 (.iload_n 3) 1 0 0 147 := ⟨rfl, rfl⟩
theorem r_X11_work_147 : RW M_X11_work 147 (.iaload) 1 0 0 148 := ⟨rfl, rfl⟩
theorem r_X11_work_148 : RW M_X11_work 148 (.iastore) 1 0 0 149 := ⟨rfl, rfl⟩
theorem r_X11_work_149 : RW M_X11_work 149 (.iinc 3 1) 3 0 0 152 := ⟨rfl, rfl⟩
theorem r_X11_work_152 : RW M_X11_work 152 (.goto (-29)) 3 123 0 155 := ⟨rfl, rfl⟩
theorem r_X11_work_155 : RW M_X11_work 155 (.aload_n 0) 1 0 0 156 := ⟨rfl, rfl⟩
theorem r_X11_work_156 : RW M_X11_work 156 (.dup) 1 0 0 157 := ⟨rfl, rfl⟩
theorem r_X11_work_157 : RW M_X11_work 157 (.getfield 188) 3 11 37 160 := ⟨rfl, rfl⟩
theorem r_X11_work_160 : RW M_X11_work 160 (.iconst 1) 1 0 0 161 := ⟨rfl, rfl⟩
theorem r_X11_work_161 : RW M_X11_work 161 (.iadd) 1 0 0 162 := ⟨rfl, rfl⟩
theorem r_X11_work_162 : RW M_X11_work 162 (.putfield 188) 3 11 37 165 := ⟨rfl, rfl⟩
theorem r_X11_work_165 : RW M_X11_work 165 (.aload_n 0) 1 0 0 166 := ⟨rfl, rfl⟩
theorem r_X11_work_166 : RW M_X11_work 166 (.invokevirtual 322) 3 212 0 169 := ⟨rfl, rfl⟩
theorem r_X11_work_169 : RW M_X11_work 169 (.aload_n 0) 1 0 0 170 := ⟨rfl, rfl⟩
theorem r_X11_work_170 : RW M_X11_work 170 (.iconst 0) 1 0 0 171 := ⟨rfl, rfl⟩
theorem r_X11_work_171 : RW M_X11_work 171 (.putfield 325) 3 11 39 174 := ⟨rfl, rfl⟩
theorem r_X11_work_174 : RW M_X11_work 174 (.aload_n 0) 1 0 0 175 := ⟨rfl, rfl⟩
theorem r_X11_work_175 : RW M_X11_work 175 (.iconst 0) 1 0 0 176 := ⟨rfl, rfl⟩
theorem r_X11_work_176 : RW M_X11_work 176 (.putfield 328) 3 11 40 179 := ⟨rfl, rfl⟩
theorem r_X11_work_179 : RW M_X11_work 179 (.aload_n 0) 1 0 0 180 := ⟨rfl, rfl⟩
theorem r_X11_work_180 : RW M_X11_work 180 (.iconst 0) 1 0 0 181 := ⟨rfl, rfl⟩
theorem r_X11_work_181 : RW M_X11_work 181 (.putfield 331) 3 11 41 184 := ⟨rfl, rfl⟩
theorem r_X11_work_184 : RW M_X11_work 184 (.aload_n 0) 1 0 0 185 := ⟨rfl, rfl⟩
theorem r_X11_work_185 : RW M_X11_work 185 (.iconst 0) 1 0 0 186 := ⟨rfl, rfl⟩
theorem r_X11_work_186 : RW M_X11_work 186 (.aload_n 0) 1 0 0 187 := ⟨rfl, rfl⟩
theorem r_X11_work_187 : RW M_X11_work 187 (.getfield 294) 3 11 36 190 := ⟨rfl, rfl⟩
theorem r_X11_work_190 : RW M_X11_work 190 (.invokevirtual 334) 3 211 0 193 := ⟨rfl, rfl⟩
theorem r_X11_work_193 : RW M_X11_work 193 (.aload_n 0) 1 0 0 194 := ⟨rfl, rfl⟩
theorem r_X11_work_194 : RW M_X11_work 194 (.aload_n 0) 1 0 0 195 := ⟨rfl, rfl⟩
theorem r_X11_work_195 : RW M_X11_work 195 (.getfield 74) 3 11 43 198 := ⟨rfl, rfl⟩
theorem r_X11_work_198 : RW M_X11_work 198 (.aload_n 0) 1 0 0 199 := ⟨rfl, rfl⟩
theorem r_X11_work_199 : RW M_X11_work 199 (.getfield 71) 3 11 42 202 := ⟨rfl, rfl⟩
theorem r_X11_work_202 : RW M_X11_work 202 (.bipush 31) 2 0 0 204 := ⟨rfl, rfl⟩
theorem r_X11_work_204 : RW M_X11_work 204 (.invokevirtual 178) 3 187 0 207 := ⟨rfl, rfl⟩
theorem r_X11_work_207 : RW M_X11_work 207 (.aload_n 0) 1 0 0 208 := ⟨rfl, rfl⟩
theorem r_X11_work_208 : RW M_X11_work 208 (.aload_n 0) 1 0 0 209 := ⟨rfl, rfl⟩
theorem r_X11_work_209 : RW M_X11_work 209 (.getfield 331) 3 11 41 212 := ⟨rfl, rfl⟩
theorem r_X11_work_212 : RW M_X11_work 212 (.putfield 194) 3 11 38 215 := ⟨rfl, rfl⟩
theorem r_X11_work_215 : RW M_X11_work 215 (.aload_n 0) 1 0 0 216 := ⟨rfl, rfl⟩
theorem r_X11_work_216 : RW M_X11_work 216 (.getfield 328) 3 11 40 219 := ⟨rfl, rfl⟩
theorem r_X11_work_219 : RW M_X11_work 219 (.ireturn) 1 0 0 220 := ⟨rfl, rfl⟩
theorem m_workL {d : Nat} {I : Nat → Nat → Int32} {J : Nat → Nat → Int64} {S : STT} {n : Nat} (sb : SB S) (h : MIn S I) (ht : n ≤ S.tl) (hn : n ≤ 150) (hw : S.w = 16)  (hd : 5 ≤ d) : RI d 210 [.ref 106, .int (nI n)] I J (fun v I' => v = zI (-20) ∧ MIn (S.txt (zI (-1))) I' ∧ HIf I I' ∧ I' 106 0 = nI 0) := by
  refine RI.in (d0 := 4) hd mt_210 (Nat.le_of_ble_eq_true rfl) (fun d' hd' => ?_)
  have tl6 := sb.tl
  show EV none M_X11_work d' 0 [(0, .ref 106), (1, .int (nI n))] [] (hp I J) _
  refine EV.l (lv' := [(0, _), (1, _)]) r_X11_work_0 rfl ?_
  refine EV.o r_X11_work_1 (icN (0) (v := 0)) ?_
  refine EV.pIn r_X11_work_2 la_106 (fun I1 e1_ => ?_)
  refine EV.l (lv' := [(0, _), (1, _)]) r_X11_work_5 rfl ?_
  refine EV.l (lv' := [(0, _), (1, _)]) r_X11_work_6 rfl ?_
  refine EV.n0_lt r_X11_work_7 (fun h7 => ?_) (fun h7 => ?_)
  · -- 7 t
    refine EV.o r_X11_work_29 (icN (0) (v := 0)) ?_
    have z0 : I1 106 0 = nI 0 := by rw [e1_]; exact wr_same
    refine EV.o r_X11_work_30 (icN (1) (v := 1)) ?_
    refine EV.o r_X11_work_31 (icN (1) (v := 1)) ?_
    omega
  · -- 7 f
    refine EV.l (lv' := [(0, _), (1, _)]) r_X11_work_10 rfl ?_
    refine EV.l (lv' := [(0, _), (1, _)]) r_X11_work_11 rfl ?_
    refine EV.getV r_X11_work_12 la_106 ((show I1 106 2 = nI S.tl from by rw [e1_, wr_ne (Or.inr (by decide))]; exact h.tl)) ?_
    refine EV.n2_gt r_X11_work_15 (fun h15 => ?_) (fun h15 => ?_)
    · -- 15 t
      refine EV.o r_X11_work_29 (icN (0) (v := 0)) ?_
      have z0 : I1 106 0 = nI 0 := by rw [e1_]; exact wr_same
      refine EV.o r_X11_work_30 (icN (1) (v := 1)) ?_
      refine EV.o r_X11_work_31 (icN (1) (v := 1)) ?_
      omega
    · -- 15 f
      refine EV.l (lv' := [(0, _), (1, _)]) r_X11_work_18 rfl ?_
      refine EV.o r_X11_work_19 (spN (150) 150) ?_
      refine EV.n2_gt r_X11_work_22 (fun h22 => ?_) (fun h22 => ?_)
      · -- 22 t
        refine EV.o r_X11_work_29 (icN (0) (v := 0)) ?_
        have z0 : I1 106 0 = nI 0 := by rw [e1_]; exact wr_same
        refine EV.o r_X11_work_30 (icN (1) (v := 1)) ?_
        refine EV.o r_X11_work_31 (icN (1) (v := 1)) ?_
        omega
      · -- 22 f
        refine EV.o r_X11_work_25 (icN (1) (v := 1)) ?_
        refine EV.g r_X11_work_26 ?_
        have z0 : I1 106 0 = nI 0 := by rw [e1_]; exact wr_same
        refine EV.o r_X11_work_30 (icN (1) (v := 1)) ?_
        refine EV.o r_X11_work_31 (icN (1) (v := 1)) ?_
        refine EV.cv r_X11_work_32 (aV3 mt_169 la_106) (m_mayN z0 (by omega)) ?_
        refine EV.n0_ne r_X11_work_35 (fun h35 => ?_) (fun h35 => ?_)
        · -- 35 t
          refine EV.l (lv' := [(0, _), (1, _)]) r_X11_work_40 rfl ?_
          refine EV.l (lv' := [(0, _), (1, _)]) r_X11_work_41 rfl ?_
          refine EV.cu r_X11_work_42 (aV1 mt_184 la_106) (m_begins (g := S.tp) (by omega)) (fun I2 h2 => ?_)
          obtain ⟨mg2, op2, f82, o2, j2⟩ := h2
          have w2 : I2 106 37 = nI S.w := (j2 37 (by decide) (by decide) (by decide) (by decide) (by decide) (by decide)).trans (by rw [e1_, wr_ne (Or.inr (by decide))]; exact h.w)
          refine EV.l (lv' := [(0, _), (1, _)]) r_X11_work_45 rfl ?_
          refine EV.getV r_X11_work_46 la_106 (w2) ?_
          refine EV.o r_X11_work_49 (bpN (16) 16) ?_
          refine EV.n2_ne r_X11_work_51 (fun h51 => ?_) (fun h51 => ?_)
          · omega
          · -- 51 f
            refine EV.l (lv' := [(0, _), (1, _)]) r_X11_work_54 rfl ?_
            refine EV.o r_X11_work_55 (icN (0) (v := 0)) ?_
            refine EV.ci r_X11_work_56 (aV1 mt_185 la_106) (m_resG mg2 (by omega)) (fun v IB hB => ?_)
            obtain ⟨e, eB⟩ := hB
            subst e
            refine EV.o r_X11_work_59 rfl ?_
            refine EV.o r_X11_work_60 (bpZ (-20)) ?_
            exact EV.ri r_X11_work_62 (⟨rfl, h.txt (fun j hj p2 p8 => by have q := scf_t hj; rw [eB, wr_ne (Or.inr p8), j2 j p2 q.2.1 q.2.2.1 q.2.2.2.1 q.2.2.2.2.2.1 p8, e1_]; exact wr_ne (Or.inr q.1)) (by rw [eB, wr_ne (Or.inr (by decide))]; exact mg2.ln) (by rw [eB]; exact wr_same) (fun o p1 p2 => by rw [eB, wr_row p1, o2 o p1, e1_]; exact wr_row p1), fun o ho => by rw [eB, wr_row (by omega), o2 o (by omega), e1_]; exact wr_row (by omega), by rw [eB, wr_ne (Or.inr (by decide)), j2 0 (by decide) (by decide) (by decide) (by decide) (by decide) (by decide), e1_]; exact wr_same⟩)
        · omega
theorem m_workG {d : Nat} {I : Nat → Nat → Int32} {J : Nat → Nat → Int64} {S : STT} {n : Nat} (sb : SB S) (h : MIn S I) (ht : n ≤ S.tl) (hn : n ≤ 150) (hw : S.w < 16) {s2 : Nat} (hz : (wrkT S.tp n S.κ (scp isB S.tp n 0)).2 = .inl s2)  (hd : 23 ≤ d) : RI d 210 [.ref 106, .int (nI n)] I J (fun v I' => v = nI (wrkR S (wrkT S.tp n S.κ (scp isB S.tp n 0)).1).2.2.1 ∧ MIn (S.wrk (wrkT S.tp n S.κ (scp isB S.tp n 0)).1) I' ∧ HIf I I' ∧ I' 106 0 = nI 0) := by
  refine RI.in (d0 := 22) hd mt_210 (Nat.le_of_ble_eq_true rfl) (fun d' hd' => ?_)
  have tl6 := sb.tl
  have w16 := sb.w
  show EV none M_X11_work d' 0 [(0, .ref 106), (1, .int (nI n))] [] (hp I J) _
  refine EV.l (lv' := [(0, _), (1, _)]) r_X11_work_0 rfl ?_
  refine EV.o r_X11_work_1 (icN (0) (v := 0)) ?_
  refine EV.pIn r_X11_work_2 la_106 (fun I1 e1_ => ?_)
  refine EV.l (lv' := [(0, _), (1, _)]) r_X11_work_5 rfl ?_
  refine EV.l (lv' := [(0, _), (1, _)]) r_X11_work_6 rfl ?_
  refine EV.n0_lt r_X11_work_7 (fun h7 => ?_) (fun h7 => ?_)
  · -- 7 t
    refine EV.o r_X11_work_29 (icN (0) (v := 0)) ?_
    have z0 : I1 106 0 = nI 0 := by rw [e1_]; exact wr_same
    refine EV.o r_X11_work_30 (icN (1) (v := 1)) ?_
    refine EV.o r_X11_work_31 (icN (1) (v := 1)) ?_
    omega
  · -- 7 f
    refine EV.l (lv' := [(0, _), (1, _)]) r_X11_work_10 rfl ?_
    refine EV.l (lv' := [(0, _), (1, _)]) r_X11_work_11 rfl ?_
    refine EV.getV r_X11_work_12 la_106 ((show I1 106 2 = nI S.tl from by rw [e1_, wr_ne (Or.inr (by decide))]; exact h.tl)) ?_
    refine EV.n2_gt r_X11_work_15 (fun h15 => ?_) (fun h15 => ?_)
    · -- 15 t
      refine EV.o r_X11_work_29 (icN (0) (v := 0)) ?_
      have z0 : I1 106 0 = nI 0 := by rw [e1_]; exact wr_same
      refine EV.o r_X11_work_30 (icN (1) (v := 1)) ?_
      refine EV.o r_X11_work_31 (icN (1) (v := 1)) ?_
      omega
    · -- 15 f
      refine EV.l (lv' := [(0, _), (1, _)]) r_X11_work_18 rfl ?_
      refine EV.o r_X11_work_19 (spN (150) 150) ?_
      refine EV.n2_gt r_X11_work_22 (fun h22 => ?_) (fun h22 => ?_)
      · -- 22 t
        refine EV.o r_X11_work_29 (icN (0) (v := 0)) ?_
        have z0 : I1 106 0 = nI 0 := by rw [e1_]; exact wr_same
        refine EV.o r_X11_work_30 (icN (1) (v := 1)) ?_
        refine EV.o r_X11_work_31 (icN (1) (v := 1)) ?_
        omega
      · -- 22 f
        refine EV.o r_X11_work_25 (icN (1) (v := 1)) ?_
        refine EV.g r_X11_work_26 ?_
        have z0 : I1 106 0 = nI 0 := by rw [e1_]; exact wr_same
        refine EV.o r_X11_work_30 (icN (1) (v := 1)) ?_
        refine EV.o r_X11_work_31 (icN (1) (v := 1)) ?_
        refine EV.cv r_X11_work_32 (aV3 mt_169 la_106) (m_mayN z0 (by omega)) ?_
        refine EV.n0_ne r_X11_work_35 (fun h35 => ?_) (fun h35 => ?_)
        · -- 35 t
          refine EV.l (lv' := [(0, _), (1, _)]) r_X11_work_40 rfl ?_
          refine EV.l (lv' := [(0, _), (1, _)]) r_X11_work_41 rfl ?_
          refine EV.cu r_X11_work_42 (aV1 mt_184 la_106) (m_begins (g := S.tp) (by omega)) (fun I2 h2 => ?_)
          obtain ⟨mg2, op2, f82, o2, j2⟩ := h2
          have w2 : I2 106 37 = nI S.w := (j2 37 (by decide) (by decide) (by decide) (by decide) (by decide) (by decide)).trans (by rw [e1_, wr_ne (Or.inr (by decide))]; exact h.w)
          refine EV.l (lv' := [(0, _), (1, _)]) r_X11_work_45 rfl ?_
          refine EV.getV r_X11_work_46 la_106 (w2) ?_
          refine EV.o r_X11_work_49 (bpN (16) 16) ?_
          refine EV.n2_ne r_X11_work_51 (fun h51 => ?_) (fun h51 => ?_)
          · -- 51 t
            refine EV.l (lv' := [(0, _), (1, _)]) r_X11_work_63 rfl ?_
            refine EV.o r_X11_work_64 (icN (0) (v := 0)) ?_
            refine EV.pIn r_X11_work_65 la_106 (fun I3 e3 => ?_)
            have ls3 : LSv S.tp n S.κ 0 (pl0, .inl (scp isB S.tp n 0)) I3 := ls_zero (tp_fm h.tp ((o2 108 (by decide)).trans (by rw [e1_]; exact wr_row (by decide)))) mg2 op2 ⟨(j2 22 (by decide) (by decide) (by decide) (by decide) (by decide) (by decide)).trans (by rw [e1_, wr_ne (Or.inr (by decide))]; exact h.mc.ns), (j2 24 (by decide) (by decide) (by decide) (by decide) (by decide) (by decide)).trans (by rw [e1_, wr_ne (Or.inr (by decide))]; exact h.mc.nb), (j2 25 (by decide) (by decide) (by decide) (by decide) (by decide) (by decide)).trans (by rw [e1_, wr_ne (Or.inr (by decide))]; exact h.mc.nc)⟩ e3
            have L68 : ∀ y_ : Nat × WX × (Nat → Nat → Int32), (fun y => VTI S.tp n S.κ (sgs S.tp n (stT S.tp n S.κ 6)) (wrkT S.tp n S.κ (scp isB S.tp n 0)) I3 y.1 y.2.1 y.2.2 → EV none M_X11_work d' 68 [(0, .ref 106), (1, .int (nI n))] [] (hp y.2.2 J) (QI J (fun v I' => v = nI (wrkR S (wrkT S.tp n S.κ (scp isB S.tp n 0)).1).2.2.1 ∧ MIn (S.wrk (wrkT S.tp n S.κ (scp isB S.tp n 0)).1) I' ∧ HIf I I' ∧ I' 106 0 = nI 0))) y_ := by
              refine ev_loop (fun y => 150 - y.1) ?_
              intro ⟨i, x, M⟩ ih68 hx68
              try dsimp only at ih68
              try dsimp only at hx68
              try dsimp only
              refine EV.l (lv' := [(0, _), (1, _)]) r_X11_work_68 rfl ?_
              refine EV.cv r_X11_work_69 (aV0 mt_173 la_106) (m_fine hx68.1.2.1 (by omega) (by omega)) ?_
              refine EV.b0_eq r_X11_work_72 (fun h72 => ?_) (fun h72 => ?_)
              · -- 72 t
                have xe := hx68.fin (fun s9 e => (okr_n h72 s9 e).elim)
                have lsx := hx68.1
                have vgx := hx68.2.1
                rw [xe] at lsx
                have mdx := lsx.2.1
                rw [hz] at mdx
                have fo : ∀ o, o ≠ 106 → o ≠ 123 → M o = I o := fun o p1 p2 => (vgx.2 o p1 p2).trans (((congrFun e3 o).trans (wr_row p1)).trans ((o2 o p1).trans (by rw [e1_]; exact wr_row p1)))
                have fj : ∀ j, j ≠ 0 → j ≠ 2 → j ≠ 3 → j ≠ 4 → j ≠ 5 → j ≠ 6 → j ≠ 7 → j ≠ 8 → j ≠ 36 → M 106 j = I 106 j := fun j p0 p2 p3 p4 p5 p6 p7 p8 p9 => (vgx.1 j p4 p5 p6 p7 p9).trans (((congrFun (congrFun e3 106) j).trans (wr_ne (Or.inr p9))).trans ((j2 j p2 p3 p4 p5 p7 p8).trans (by rw [e1_]; exact wr_ne (Or.inr p0))))
                have f0 : M 106 0 = nI 0 := (vgx.1 0 (by decide) (by decide) (by decide) (by decide) (by decide)).trans (((congrFun (congrFun e3 106) 0).trans (wr_ne (Or.inr (by decide)))).trans ((j2 0 (by decide) (by decide) (by decide) (by decide) (by decide) (by decide)).trans (by rw [e1_]; exact wr_same)))
                have mgx : MG S.tp n s2 M := mdx
                have pmx := (lsx.2.2.2.2 s2 hz).1
                have wk := wrkT_ok (g := S.tp) (κ := S.κ) (scp_le (p := isB) (g := S.tp) (n := n) (i := 0) (Nat.zero_le _)) hz
                refine EV.l (lv' := [(0, _), (1, _)]) r_X11_work_89 rfl ?_
                refine EV.o r_X11_work_90 (icN (0) (v := 0)) ?_
                refine EV.ci r_X11_work_91 (aV1 mt_185 la_106) (m_resG mgx (by omega)) (fun v IB hB => ?_)
                obtain ⟨e, eB⟩ := hB
                subst e
                have n36 : IB 106 36 = nI (4 * (wrkT S.tp n S.κ (scp isB S.tp n 0)).1.m) := by rw [eB, wr_ne (Or.inr (by decide))]; exact pmx.1
                refine EV.l (lv' := [(0, _), (1, _), (2, _)]) r_X11_work_94 rfl ?_
                refine EV.l (lv' := [(0, _), (1, _), (2, _)]) r_X11_work_95 rfl ?_
                refine EV.getV r_X11_work_96 la_106 ((show IB 106 5 = zI (-1) from by rw [eB, wr_ne (Or.inr (by decide))]; exact mgx.fo)) ?_
                refine EV.o r_X11_work_99 (icZ (-1)) ?_
                refine EV.z2_eq r_X11_work_100 (fun h100 => ?_) (fun h100 => ?_)
                · -- 100 t
                  refine EV.l (lv' := [(0, _), (1, _), (2, _)]) r_X11_work_105 rfl ?_
                  refine EV.l (lv' := [(0, _), (1, _), (2, _)]) r_X11_work_106 rfl ?_
                  refine EV.gR r_X11_work_107 la_106 ?_
                  refine EV.l (lv' := [(0, _), (1, _), (2, _)]) r_X11_work_110 rfl ?_
                  refine EV.gR r_X11_work_111 la_106 ?_
                  refine EV.l (lv' := [(0, _), (1, _), (2, _)]) r_X11_work_114 rfl ?_
                  refine EV.getV r_X11_work_115 la_106 (n36) ?_
                  refine EV.cu r_X11_work_118 (aV3 mt_187 la_106) (m_copies la_123 la_124 (by decide) (by decide) (by omega) (by omega) (by decide) (by decide) (by decide) (by omega)) (fun ID eD => ?_)
                  have d37 : ID 106 37 = nI S.w := by rw [eD, cpy_row (by decide), eB, wr_ne (Or.inr (by decide)), fj 37 (by decide) (by decide) (by decide) (by decide) (by decide) (by decide) (by decide) (by decide) (by decide)]; exact h.w
                  refine EV.o r_X11_work_121 (icN (0) (v := 0)) ?_
                  refine EV.l (lv' := [(0, _), (1, _), (2, _), (3, _)]) r_X11_work_122 rfl ?_
                  have L123 : ∀ y_ : Nat × (Nat → Nat → Int32), (fun z => (z.1 ≤ 31 ∧ (∀ o, o ≠ 127 → z.2 o = ID o) ∧ (∀ j, j < z.1 → z.2 127 (31 * S.w + j) = ID 125 j) ∧ ∀ k, (k < 31 * S.w ∨ 31 * S.w + 31 ≤ k) → z.2 127 k = ID 127 k) → EV none M_X11_work d' 123 [(0, .ref 106), (1, .int (nI n)), (2, .int (nI 0)), (3, .int (nI z.1))] [] (hp z.2 J) (QI J (fun v I' => v = nI (wrkR S (wrkT S.tp n S.κ (scp isB S.tp n 0)).1).2.2.1 ∧ MIn (S.wrk (wrkT S.tp n S.κ (scp isB S.tp n 0)).1) I' ∧ HIf I I' ∧ I' 106 0 = nI 0))) y_ := by
                    refine ev_loop (fun z => 31 - z.1) ?_
                    intro ⟨c, ME⟩ ih123 hx123
                    try dsimp only at ih123
                    try dsimp only at hx123
                    try dsimp only
                    have w123 : ME 106 37 = nI S.w := (congrFun (hx123.2.1 106 (by decide)) 37).trans d37
                    refine EV.l (lv' := [(0, _), (1, _), (2, _), (3, _)]) r_X11_work_123 rfl ?_
                    refine EV.o r_X11_work_124 (bpN (31) 31) ?_
                    refine EV.n2_ge r_X11_work_126 (fun h126 => ?_) (fun h126 => ?_)
                    · -- 126 t
                      refine EV.l (lv' := [(0, _), (1, _), (2, _), (3, _)]) r_X11_work_155 rfl ?_
                      refine EV.o r_X11_work_156 rfl ?_
                      refine EV.getV r_X11_work_157 la_106 (w123) ?_
                      refine EV.o r_X11_work_160 (icN (1) (v := 1)) ?_
                      refine EV.o r_X11_work_161 iaddN ?_
                      refine EV.pIn r_X11_work_162 la_106 (fun IF eF => ?_)
                      refine EV.l (lv' := [(0, _), (1, _), (2, _), (3, _)]) r_X11_work_165 rfl ?_
                      refine EV.cu r_X11_work_166 (aV0 mt_212 la_106) (m_take (by omega)) (fun IG eG => ?_)
                      refine EV.l (lv' := [(0, _), (1, _), (2, _), (3, _)]) r_X11_work_169 rfl ?_
                      refine EV.o r_X11_work_170 (icN (0) (v := 0)) ?_
                      refine EV.pIn r_X11_work_171 la_106 (fun IH eH => ?_)
                      refine EV.l (lv' := [(0, _), (1, _), (2, _), (3, _)]) r_X11_work_174 rfl ?_
                      refine EV.o r_X11_work_175 (icN (0) (v := 0)) ?_
                      refine EV.pIn r_X11_work_176 la_106 (fun IJ eJ => ?_)
                      refine EV.l (lv' := [(0, _), (1, _), (2, _), (3, _)]) r_X11_work_179 rfl ?_
                      refine EV.o r_X11_work_180 (icN (0) (v := 0)) ?_
                      refine EV.pIn r_X11_work_181 la_106 (fun IK eK => ?_)
                      have oE : ∀ o, o ≠ 127 → ME o = ID o := hx123.2.1
                      have oK : ∀ o, o ≠ 106 → o ≠ 126 → IK o = ME o := fun o p1 p2 => by rw [eK, wr_row p1, eJ, wr_row p1, eH, wr_row p1, eG, cpy_row p2, eF, wr_row p1]
                      have jK : ∀ j, j ≠ 37 → j ≠ 39 → j ≠ 40 → j ≠ 41 → IK 106 j = ID 106 j := fun j p1 p2 p3 p4 => by rw [eK, wr_ne (Or.inr p4), eJ, wr_ne (Or.inr p3), eH, wr_ne (Or.inr p2), eG, cpy_row (by decide), eF, wr_ne (Or.inr p1), oE 106 (by decide)]
                      have oD : ∀ o, o ≠ 106 → o ≠ 123 → o ≠ 124 → ID o = I o := fun o p1 p2 p3 => by rw [eD, cpy_row p3, eB, wr_row p1]; exact fo o p1 p2
                      have jD : ∀ j, j ≠ 0 → j ≠ 2 → j ≠ 3 → j ≠ 4 → j ≠ 5 → j ≠ 6 → j ≠ 7 → j ≠ 8 → j ≠ 36 → ID 106 j = I 106 j := fun j p0 p2 p3 p4 p5 p6 p7 p8 p9 => by rw [eD, cpy_row (by decide), eB, wr_ne (Or.inr p8)]; exact fj j p0 p2 p3 p4 p5 p6 p7 p8 p9
                      have oKI : ∀ o, o ≠ 106 → o ≠ 123 → o ≠ 124 → o ≠ 126 → o ≠ 127 → IK o = I o := fun o p1 p2 p3 p4 p5 => (oK o p1 p4).trans ((oE o p5).trans (oD o p1 p2 p3))
                      have jKI : ∀ j, j ≠ 0 → j ≠ 2 → j ≠ 3 → j ≠ 4 → j ≠ 5 → j ≠ 6 → j ≠ 7 → j ≠ 8 → j ≠ 36 → j ≠ 37 → j ≠ 39 → j ≠ 40 → j ≠ 41 → IK 106 j = I 106 j := fun j p0 p2 p3 p4 p5 p6 p7 p8 p9 pa pb pc pd => (jK j pa pb pc pd).trans (jD j p0 p2 p3 p4 p5 p6 p7 p8 p9)
                      have rmK : RM S.κ S.l (wrkT S.tp n S.κ (scp isB S.tp n 0)).1 (S.η, (0, (0, 0))) IK := by
                        refine ⟨fun j hj => ?_, ?_, ?_, ?_, ?_, ?_, ?_⟩
                        · have p := pmx.2 j hj
                          have e124 : ∀ i, i < 4 * (wrkT S.tp n S.κ (scp isB S.tp n 0)).1.m → IK 124 i = ID 124 i := fun i _ => by rw [oK 124 (by decide) (by decide), oE 124 (by decide)]
                          have e4 : ∀ i, i < 4 * (wrkT S.tp n S.κ (scp isB S.tp n 0)).1.m → IK 124 i = M 123 i := fun i hi => by rw [e124 i hi, eD, cpy_in hi, eB, wr_row (by decide)]
                          rw [e4 _ (by omega), e4 _ (by omega), e4 _ (by omega), e4 _ (by omega)]
                          exact p
                        · have z := h.mc
                          unfold MC at z ⊢
                          rw [jKI 22 (by decide) (by decide) (by decide) (by decide) (by decide) (by decide) (by decide) (by decide) (by decide) (by decide) (by decide) (by decide) (by decide), jKI 23 (by decide) (by decide) (by decide) (by decide) (by decide) (by decide) (by decide) (by decide) (by decide) (by decide) (by decide) (by decide) (by decide), jKI 24 (by decide) (by decide) (by decide) (by decide) (by decide) (by decide) (by decide) (by decide) (by decide) (by decide) (by decide) (by decide) (by decide), jKI 25 (by decide) (by decide) (by decide) (by decide) (by decide) (by decide) (by decide) (by decide) (by decide) (by decide) (by decide) (by decide) (by decide), oKI 113 (by decide) (by decide) (by decide) (by decide) (by decide), oKI 114 (by decide) (by decide) (by decide) (by decide) (by decide), oKI 115 (by decide) (by decide) (by decide) (by decide) (by decide), oKI 116 (by decide) (by decide) (by decide) (by decide) (by decide)]
                          exact z
                        · exact h.ml.fr9 (jKI 32 (by decide) (by decide) (by decide) (by decide) (by decide) (by decide) (by decide) (by decide) (by decide) (by decide) (by decide) (by decide) (by decide)) (oKI 119 (by decide) (by decide) (by decide) (by decide) (by decide)) (oKI 120 (by decide) (by decide) (by decide) (by decide) (by decide))
                        · exact h.mr.cpd sb.cb (fun j hj => by rw [eK, wr_row (by decide), eJ, wr_row (by decide), eH, wr_row (by decide), eG, cpy_in hj, eF, wr_row (by decide), oE 125 (by decide), oD 125 (by decide) (by decide) (by decide)])
                        · rw [eK, wr_ne (Or.inr (by decide)), eJ, wr_ne (Or.inr (by decide)), eH]; exact wr_same
                        · rw [eK, wr_ne (Or.inr (by decide)), eJ]; exact wr_same
                        · rw [eK]; exact wr_same
                      have k36 : IK 106 36 = nI (4 * (wrkT S.tp n S.κ (scp isB S.tp n 0)).1.m) := by rw [jK 36 (by decide) (by decide) (by decide) (by decide), eD, cpy_row (by decide)]; exact n36
                      refine EV.l (lv' := [(0, _), (1, _), (2, _), (3, _)]) r_X11_work_184 rfl ?_
                      refine EV.o r_X11_work_185 (icN (0) (v := 0)) ?_
                      refine EV.l (lv' := [(0, _), (1, _), (2, _), (3, _)]) r_X11_work_186 rfl ?_
                      refine EV.getV r_X11_work_187 la_106 (k36) ?_
                      refine EV.cu r_X11_work_190 (aV2 mt_211 la_106) (m_gs sb.cb sb.lb (by omega) 6 d' IK J 0 (wrkT S.tp n S.κ (scp isB S.tp n 0)).1.m (S.η, (0, (0, 0))) (by omega) (Nat.le_refl _) wk.2.2 (Nat.zero_le _) sb.ri0 rmK) (fun IL hL => ?_)
                      obtain ⟨rmL, sfL, riL⟩ := hL
                      refine EV.l (lv' := [(0, _), (1, _), (2, _), (3, _)]) r_X11_work_193 rfl ?_
                      refine EV.l (lv' := [(0, _), (1, _), (2, _), (3, _)]) r_X11_work_194 rfl ?_
                      refine EV.gR r_X11_work_195 la_106 ?_
                      refine EV.l (lv' := [(0, _), (1, _), (2, _), (3, _)]) r_X11_work_198 rfl ?_
                      refine EV.gR r_X11_work_199 la_106 ?_
                      refine EV.o r_X11_work_202 (bpN (31) 31) ?_
                      refine EV.cu r_X11_work_204 (aV3 mt_187 la_106) (m_copies la_126 la_125 (by decide) (by decide) (by omega) (by omega) (by decide) (by decide) (by decide) (by omega)) (fun IM eM => ?_)
                      refine EV.l (lv' := [(0, _), (1, _), (2, _), (3, _)]) r_X11_work_207 rfl ?_
                      refine EV.l (lv' := [(0, _), (1, _), (2, _), (3, _)]) r_X11_work_208 rfl ?_
                      refine EV.getV r_X11_work_209 la_106 ((show IM 106 41 = nI (wrkR S (wrkT S.tp n S.κ (scp isB S.tp n 0)).1).2.2.2 from by rw [eM, cpy_row (by decide)]; exact rmL.2.2.2.2.2.2)) ?_
                      refine EV.pIn r_X11_work_212 la_106 (fun IN eN => ?_)
                      have ps9 : ∀ k, k < S.w + 1 → MS 127 (31 * k) S.κ (if k = S.w then S.η else S.ps k) IN := fun k hk => by
                        have e127 : IN 127 = ME 127 := by rw [eN, wr_row (by decide), eM, cpy_row (by decide), sfL.2 127 (by decide) (by decide) (by decide) (by decide), oK 127 (by decide) (by decide)]
                        by_cases z : k = S.w
                        · rw [if_pos z, z]
                          exact MS.sv sb.cb h.mr (fun j hj => by rw [e127, hx123.2.2.1 j (by omega), oD 125 (by decide) (by decide) (by decide)])
                        · rw [if_neg z]
                          exact (h.ps k (by omega)).ext sb.cb (fun j hj => by rw [e127, hx123.2.2.2 _ (Or.inl (by omega)), oD 127 (by decide) (by decide) (by decide)])
                      refine EV.l (lv' := [(0, _), (1, _), (2, _), (3, _)]) r_X11_work_215 rfl ?_
                      refine EV.getV r_X11_work_216 la_106 ((show IN 106 40 = nI (wrkR S (wrkT S.tp n S.κ (scp isB S.tp n 0)).1).2.2.1 from by rw [eN, wr_ne (Or.inr (by decide)), eM, cpy_row (by decide)]; exact rmL.2.2.2.2.2.1)) ?_
                      exact EV.ri r_X11_work_219 (⟨rfl, h.wrk (fun j hj p2 p8 p37 p38 => by
      have q := scf_t hj
      have q36 : j ≠ 36 := fun e => by subst e; exact absurd hj (by decide)
      rw [eN, wr_ne (Or.inr p38), eM, cpy_row (by decide), sfL.1 j q.2.2.2.2.2.2.2.2.2.1 q.2.2.2.2.2.2.2.2.2.2.1 q.2.2.2.2.2.2.2.2.2.2.2]
      exact jKI j q.1 p2 q.2.1 q.2.2.1 q.2.2.2.1 q.2.2.2.2.1 q.2.2.2.2.2.1 p8 q36 p37 q.2.2.2.2.2.2.2.2.2.1 q.2.2.2.2.2.2.2.2.2.2.1 q.2.2.2.2.2.2.2.2.2.2.2) (by rw [eN, wr_ne (Or.inr (by decide)), eM, cpy_row (by decide), sfL.1 2 (by decide) (by decide) (by decide), jK 2 (by decide) (by decide) (by decide) (by decide), eD, cpy_row (by decide), eB, wr_ne (Or.inr (by decide))]; exact mgx.ln) (by rw [eN, wr_ne (Or.inr (by decide)), eM, cpy_row (by decide), sfL.1 8 (by decide) (by decide) (by decide), jK 8 (by decide) (by decide) (by decide) (by decide), eD, cpy_row (by decide), eB]; exact wr_same) (by rw [eN, wr_ne (Or.inr (by decide)), eM, cpy_row (by decide), sfL.1 37 (by decide) (by decide) (by decide), eK, wr_ne (Or.inr (by decide)), eJ, wr_ne (Or.inr (by decide)), eH, wr_ne (Or.inr (by decide)), eG, cpy_row (by decide), eF]; exact wr_same) (by rw [eN]; exact wr_same) (rmL.2.2.2.1.cpd sb.cb (fun j hj => by rw [eN, wr_row (by decide), eM, cpy_in hj])) ps9 (fun o p1 p2 p3 p4 => by have q := sco_w p4; rw [eN, wr_row p1, eM, cpy_row p2, sfL.2 o p1 q.1 q.2.1 q.2.2.2.2]; exact oKI o p1 q.2.2.1 q.2.2.2.1 q.2.2.2.2 p3), fun o ho => by rw [eN, wr_row (by omega), eM, cpy_row (by omega), sfL.2 o (by omega) (by omega) (by omega) (by omega)]; exact oKI o (by omega) (by omega) (by omega) (by omega) (by omega), by rw [eN, wr_ne (Or.inr (by decide)), eM, cpy_row (by decide), sfL.1 0 (by decide) (by decide) (by decide), jK 0 (by decide) (by decide) (by decide) (by decide), eD, cpy_row (by decide), eB, wr_ne (Or.inr (by decide))]; exact f0⟩)
                    · -- 126 f
                      refine EV.l (lv' := [(0, _), (1, _), (2, _), (3, _)]) r_X11_work_129 rfl ?_
                      refine EV.gR r_X11_work_130 la_106 ?_
                      refine EV.o r_X11_work_133 (bpN (31) 31) ?_
                      refine EV.l (lv' := [(0, _), (1, _), (2, _), (3, _)]) r_X11_work_135 rfl ?_
                      refine EV.getV r_X11_work_136 la_106 (w123) ?_
                      refine EV.o r_X11_work_139 imulN ?_
                      refine EV.l (lv' := [(0, _), (1, _), (2, _), (3, _)]) r_X11_work_140 rfl ?_
                      refine EV.o r_X11_work_141 iaddN ?_
                      refine EV.l (lv' := [(0, _), (1, _), (2, _), (3, _)]) r_X11_work_142 rfl ?_
                      refine EV.gR r_X11_work_143 la_106 ?_
                      refine EV.l (lv' := [(0, _), (1, _), (2, _), (3, _)]) r_X11_work_146 rfl ?_
                      refine EV.iaN r_X11_work_147 la_125 rfl ?_
                      refine EV.iaSn r_X11_work_148 la_127 (fun IX eX => ?_)
                      refine EV.l (lv' := [(0, _), (1, _), (2, _), (3, _)]) r_X11_work_149 rfl ?_
                      rw [inc_nI]
                      refine EV.g r_X11_work_152 ?_
                      refine EV.sub ?_ rfl ?_ (ih123 (c + 1, IX) ?_ ?_)
                      · (try dsimp only) <;> (rfl)
                      · (try dsimp only) <;> (rfl)
                      · (try dsimp only) <;> (omega)
                      · (try dsimp only) <;> (exact ⟨by omega, fun o ho => by rw [eX, wr_row ho]; exact hx123.2.1 o ho, fun j hj => (Nat.lt_or_ge j c).elim (fun z => by rw [eX, wr_ne (Or.inr (by omega))]; exact hx123.2.2.1 j z) (fun z => by rw [show j = c by omega, eX, wr_same, hx123.2.1 125 (by decide)]), fun k hk => by rw [eX, wr_ne (Or.inr (by omega))]; exact hx123.2.2.2 k hk⟩)
                  have h0 := L123 (0, ID)
                  try dsimp only at h0
                  refine EV.sub ?_ rfl ?_ (h0 ?_)
                  · (try dsimp only) <;> (rfl)
                  · (try dsimp only) <;> (rfl)
                  · (try dsimp only) <;> (exact ⟨by decide, fun o _ => rfl, fun j hj => absurd hj (Nat.not_lt_zero j), fun _ _ => rfl⟩)
                · omega
              · -- 72 f
                obtain ⟨s1, er⟩ := okr_t h72
                obtain ⟨Q, r⟩ := x
                have er : r = .inl s1 := er
                subst er
                refine EV.l (lv' := [(0, _), (1, _)]) r_X11_work_75 rfl ?_
                refine EV.ci r_X11_work_76 (aV0 mt_183 la_106) (m_more hx68.1.1 sb.tp (by omega) hx68.1.mg (by omega)) (fun v I5 h5 => ?_)
                obtain ⟨e, mg5, a5, mp5⟩ := h5
                subst e
                have ls5 : LSv S.tp n S.κ 0 (Q, .inl s1) I5 := hx68.1.mo (r2 := .inl s1) mg5 mp5.mo (fun s2 e => ⟨s1, rfl, by cases e; exact Nat.le_refl _⟩)
                have vg5 : VG I3 I5 := hx68.2.1.tr mp5.mo.vg
                have sn5 := mg5.sn
                refine EV.p0_eq r_X11_work_79 (fun h79 => ?_) (fun h79 => ?_)
                · -- 79 t
                  have xe := hx68.fin (fun s9 e => by cases e; omega)
                  have lsx := ls5
                  have vgx := vg5
                  rw [xe] at lsx
                  have mdx := lsx.2.1
                  rw [hz] at mdx
                  have fo : ∀ o, o ≠ 106 → o ≠ 123 → I5 o = I o := fun o p1 p2 => (vgx.2 o p1 p2).trans (((congrFun e3 o).trans (wr_row p1)).trans ((o2 o p1).trans (by rw [e1_]; exact wr_row p1)))
                  have fj : ∀ j, j ≠ 0 → j ≠ 2 → j ≠ 3 → j ≠ 4 → j ≠ 5 → j ≠ 6 → j ≠ 7 → j ≠ 8 → j ≠ 36 → I5 106 j = I 106 j := fun j p0 p2 p3 p4 p5 p6 p7 p8 p9 => (vgx.1 j p4 p5 p6 p7 p9).trans (((congrFun (congrFun e3 106) j).trans (wr_ne (Or.inr p9))).trans ((j2 j p2 p3 p4 p5 p7 p8).trans (by rw [e1_]; exact wr_ne (Or.inr p0))))
                  have f0 : I5 106 0 = nI 0 := (vgx.1 0 (by decide) (by decide) (by decide) (by decide) (by decide)).trans (((congrFun (congrFun e3 106) 0).trans (wr_ne (Or.inr (by decide)))).trans ((j2 0 (by decide) (by decide) (by decide) (by decide) (by decide) (by decide)).trans (by rw [e1_]; exact wr_same)))
                  have mgx : MG S.tp n s2 I5 := mdx
                  have pmx := (lsx.2.2.2.2 s2 hz).1
                  have wk := wrkT_ok (g := S.tp) (κ := S.κ) (scp_le (p := isB) (g := S.tp) (n := n) (i := 0) (Nat.zero_le _)) hz
                  refine EV.l (lv' := [(0, _), (1, _)]) r_X11_work_89 rfl ?_
                  refine EV.o r_X11_work_90 (icN (0) (v := 0)) ?_
                  refine EV.ci r_X11_work_91 (aV1 mt_185 la_106) (m_resG mgx (by omega)) (fun v IB hB => ?_)
                  obtain ⟨e, eB⟩ := hB
                  subst e
                  have n36 : IB 106 36 = nI (4 * (wrkT S.tp n S.κ (scp isB S.tp n 0)).1.m) := by rw [eB, wr_ne (Or.inr (by decide))]; exact pmx.1
                  refine EV.l (lv' := [(0, _), (1, _), (2, _)]) r_X11_work_94 rfl ?_
                  refine EV.l (lv' := [(0, _), (1, _), (2, _)]) r_X11_work_95 rfl ?_
                  refine EV.getV r_X11_work_96 la_106 ((show IB 106 5 = zI (-1) from by rw [eB, wr_ne (Or.inr (by decide))]; exact mgx.fo)) ?_
                  refine EV.o r_X11_work_99 (icZ (-1)) ?_
                  refine EV.z2_eq r_X11_work_100 (fun h100 => ?_) (fun h100 => ?_)
                  · -- 100 t
                    refine EV.l (lv' := [(0, _), (1, _), (2, _)]) r_X11_work_105 rfl ?_
                    refine EV.l (lv' := [(0, _), (1, _), (2, _)]) r_X11_work_106 rfl ?_
                    refine EV.gR r_X11_work_107 la_106 ?_
                    refine EV.l (lv' := [(0, _), (1, _), (2, _)]) r_X11_work_110 rfl ?_
                    refine EV.gR r_X11_work_111 la_106 ?_
                    refine EV.l (lv' := [(0, _), (1, _), (2, _)]) r_X11_work_114 rfl ?_
                    refine EV.getV r_X11_work_115 la_106 (n36) ?_
                    refine EV.cu r_X11_work_118 (aV3 mt_187 la_106) (m_copies la_123 la_124 (by decide) (by decide) (by omega) (by omega) (by decide) (by decide) (by decide) (by omega)) (fun ID eD => ?_)
                    have d37 : ID 106 37 = nI S.w := by rw [eD, cpy_row (by decide), eB, wr_ne (Or.inr (by decide)), fj 37 (by decide) (by decide) (by decide) (by decide) (by decide) (by decide) (by decide) (by decide) (by decide)]; exact h.w
                    refine EV.o r_X11_work_121 (icN (0) (v := 0)) ?_
                    refine EV.l (lv' := [(0, _), (1, _), (2, _), (3, _)]) r_X11_work_122 rfl ?_
                    have L123 : ∀ y_ : Nat × (Nat → Nat → Int32), (fun z => (z.1 ≤ 31 ∧ (∀ o, o ≠ 127 → z.2 o = ID o) ∧ (∀ j, j < z.1 → z.2 127 (31 * S.w + j) = ID 125 j) ∧ ∀ k, (k < 31 * S.w ∨ 31 * S.w + 31 ≤ k) → z.2 127 k = ID 127 k) → EV none M_X11_work d' 123 [(0, .ref 106), (1, .int (nI n)), (2, .int (nI 0)), (3, .int (nI z.1))] [] (hp z.2 J) (QI J (fun v I' => v = nI (wrkR S (wrkT S.tp n S.κ (scp isB S.tp n 0)).1).2.2.1 ∧ MIn (S.wrk (wrkT S.tp n S.κ (scp isB S.tp n 0)).1) I' ∧ HIf I I' ∧ I' 106 0 = nI 0))) y_ := by
                      refine ev_loop (fun z => 31 - z.1) ?_
                      intro ⟨c, ME⟩ ih123 hx123
                      try dsimp only at ih123
                      try dsimp only at hx123
                      try dsimp only
                      have w123 : ME 106 37 = nI S.w := (congrFun (hx123.2.1 106 (by decide)) 37).trans d37
                      refine EV.l (lv' := [(0, _), (1, _), (2, _), (3, _)]) r_X11_work_123 rfl ?_
                      refine EV.o r_X11_work_124 (bpN (31) 31) ?_
                      refine EV.n2_ge r_X11_work_126 (fun h126 => ?_) (fun h126 => ?_)
                      · -- 126 t
                        refine EV.l (lv' := [(0, _), (1, _), (2, _), (3, _)]) r_X11_work_155 rfl ?_
                        refine EV.o r_X11_work_156 rfl ?_
                        refine EV.getV r_X11_work_157 la_106 (w123) ?_
                        refine EV.o r_X11_work_160 (icN (1) (v := 1)) ?_
                        refine EV.o r_X11_work_161 iaddN ?_
                        refine EV.pIn r_X11_work_162 la_106 (fun IF eF => ?_)
                        refine EV.l (lv' := [(0, _), (1, _), (2, _), (3, _)]) r_X11_work_165 rfl ?_
                        refine EV.cu r_X11_work_166 (aV0 mt_212 la_106) (m_take (by omega)) (fun IG eG => ?_)
                        refine EV.l (lv' := [(0, _), (1, _), (2, _), (3, _)]) r_X11_work_169 rfl ?_
                        refine EV.o r_X11_work_170 (icN (0) (v := 0)) ?_
                        refine EV.pIn r_X11_work_171 la_106 (fun IH eH => ?_)
                        refine EV.l (lv' := [(0, _), (1, _), (2, _), (3, _)]) r_X11_work_174 rfl ?_
                        refine EV.o r_X11_work_175 (icN (0) (v := 0)) ?_
                        refine EV.pIn r_X11_work_176 la_106 (fun IJ eJ => ?_)
                        refine EV.l (lv' := [(0, _), (1, _), (2, _), (3, _)]) r_X11_work_179 rfl ?_
                        refine EV.o r_X11_work_180 (icN (0) (v := 0)) ?_
                        refine EV.pIn r_X11_work_181 la_106 (fun IK eK => ?_)
                        have oE : ∀ o, o ≠ 127 → ME o = ID o := hx123.2.1
                        have oK : ∀ o, o ≠ 106 → o ≠ 126 → IK o = ME o := fun o p1 p2 => by rw [eK, wr_row p1, eJ, wr_row p1, eH, wr_row p1, eG, cpy_row p2, eF, wr_row p1]
                        have jK : ∀ j, j ≠ 37 → j ≠ 39 → j ≠ 40 → j ≠ 41 → IK 106 j = ID 106 j := fun j p1 p2 p3 p4 => by rw [eK, wr_ne (Or.inr p4), eJ, wr_ne (Or.inr p3), eH, wr_ne (Or.inr p2), eG, cpy_row (by decide), eF, wr_ne (Or.inr p1), oE 106 (by decide)]
                        have oD : ∀ o, o ≠ 106 → o ≠ 123 → o ≠ 124 → ID o = I o := fun o p1 p2 p3 => by rw [eD, cpy_row p3, eB, wr_row p1]; exact fo o p1 p2
                        have jD : ∀ j, j ≠ 0 → j ≠ 2 → j ≠ 3 → j ≠ 4 → j ≠ 5 → j ≠ 6 → j ≠ 7 → j ≠ 8 → j ≠ 36 → ID 106 j = I 106 j := fun j p0 p2 p3 p4 p5 p6 p7 p8 p9 => by rw [eD, cpy_row (by decide), eB, wr_ne (Or.inr p8)]; exact fj j p0 p2 p3 p4 p5 p6 p7 p8 p9
                        have oKI : ∀ o, o ≠ 106 → o ≠ 123 → o ≠ 124 → o ≠ 126 → o ≠ 127 → IK o = I o := fun o p1 p2 p3 p4 p5 => (oK o p1 p4).trans ((oE o p5).trans (oD o p1 p2 p3))
                        have jKI : ∀ j, j ≠ 0 → j ≠ 2 → j ≠ 3 → j ≠ 4 → j ≠ 5 → j ≠ 6 → j ≠ 7 → j ≠ 8 → j ≠ 36 → j ≠ 37 → j ≠ 39 → j ≠ 40 → j ≠ 41 → IK 106 j = I 106 j := fun j p0 p2 p3 p4 p5 p6 p7 p8 p9 pa pb pc pd => (jK j pa pb pc pd).trans (jD j p0 p2 p3 p4 p5 p6 p7 p8 p9)
                        have rmK : RM S.κ S.l (wrkT S.tp n S.κ (scp isB S.tp n 0)).1 (S.η, (0, (0, 0))) IK := by
                          refine ⟨fun j hj => ?_, ?_, ?_, ?_, ?_, ?_, ?_⟩
                          · have p := pmx.2 j hj
                            have e124 : ∀ i, i < 4 * (wrkT S.tp n S.κ (scp isB S.tp n 0)).1.m → IK 124 i = ID 124 i := fun i _ => by rw [oK 124 (by decide) (by decide), oE 124 (by decide)]
                            have e4 : ∀ i, i < 4 * (wrkT S.tp n S.κ (scp isB S.tp n 0)).1.m → IK 124 i = I5 123 i := fun i hi => by rw [e124 i hi, eD, cpy_in hi, eB, wr_row (by decide)]
                            rw [e4 _ (by omega), e4 _ (by omega), e4 _ (by omega), e4 _ (by omega)]
                            exact p
                          · have z := h.mc
                            unfold MC at z ⊢
                            rw [jKI 22 (by decide) (by decide) (by decide) (by decide) (by decide) (by decide) (by decide) (by decide) (by decide) (by decide) (by decide) (by decide) (by decide), jKI 23 (by decide) (by decide) (by decide) (by decide) (by decide) (by decide) (by decide) (by decide) (by decide) (by decide) (by decide) (by decide) (by decide), jKI 24 (by decide) (by decide) (by decide) (by decide) (by decide) (by decide) (by decide) (by decide) (by decide) (by decide) (by decide) (by decide) (by decide), jKI 25 (by decide) (by decide) (by decide) (by decide) (by decide) (by decide) (by decide) (by decide) (by decide) (by decide) (by decide) (by decide) (by decide), oKI 113 (by decide) (by decide) (by decide) (by decide) (by decide), oKI 114 (by decide) (by decide) (by decide) (by decide) (by decide), oKI 115 (by decide) (by decide) (by decide) (by decide) (by decide), oKI 116 (by decide) (by decide) (by decide) (by decide) (by decide)]
                            exact z
                          · exact h.ml.fr9 (jKI 32 (by decide) (by decide) (by decide) (by decide) (by decide) (by decide) (by decide) (by decide) (by decide) (by decide) (by decide) (by decide) (by decide)) (oKI 119 (by decide) (by decide) (by decide) (by decide) (by decide)) (oKI 120 (by decide) (by decide) (by decide) (by decide) (by decide))
                          · exact h.mr.cpd sb.cb (fun j hj => by rw [eK, wr_row (by decide), eJ, wr_row (by decide), eH, wr_row (by decide), eG, cpy_in hj, eF, wr_row (by decide), oE 125 (by decide), oD 125 (by decide) (by decide) (by decide)])
                          · rw [eK, wr_ne (Or.inr (by decide)), eJ, wr_ne (Or.inr (by decide)), eH]; exact wr_same
                          · rw [eK, wr_ne (Or.inr (by decide)), eJ]; exact wr_same
                          · rw [eK]; exact wr_same
                        have k36 : IK 106 36 = nI (4 * (wrkT S.tp n S.κ (scp isB S.tp n 0)).1.m) := by rw [jK 36 (by decide) (by decide) (by decide) (by decide), eD, cpy_row (by decide)]; exact n36
                        refine EV.l (lv' := [(0, _), (1, _), (2, _), (3, _)]) r_X11_work_184 rfl ?_
                        refine EV.o r_X11_work_185 (icN (0) (v := 0)) ?_
                        refine EV.l (lv' := [(0, _), (1, _), (2, _), (3, _)]) r_X11_work_186 rfl ?_
                        refine EV.getV r_X11_work_187 la_106 (k36) ?_
                        refine EV.cu r_X11_work_190 (aV2 mt_211 la_106) (m_gs sb.cb sb.lb (by omega) 6 d' IK J 0 (wrkT S.tp n S.κ (scp isB S.tp n 0)).1.m (S.η, (0, (0, 0))) (by omega) (Nat.le_refl _) wk.2.2 (Nat.zero_le _) sb.ri0 rmK) (fun IL hL => ?_)
                        obtain ⟨rmL, sfL, riL⟩ := hL
                        refine EV.l (lv' := [(0, _), (1, _), (2, _), (3, _)]) r_X11_work_193 rfl ?_
                        refine EV.l (lv' := [(0, _), (1, _), (2, _), (3, _)]) r_X11_work_194 rfl ?_
                        refine EV.gR r_X11_work_195 la_106 ?_
                        refine EV.l (lv' := [(0, _), (1, _), (2, _), (3, _)]) r_X11_work_198 rfl ?_
                        refine EV.gR r_X11_work_199 la_106 ?_
                        refine EV.o r_X11_work_202 (bpN (31) 31) ?_
                        refine EV.cu r_X11_work_204 (aV3 mt_187 la_106) (m_copies la_126 la_125 (by decide) (by decide) (by omega) (by omega) (by decide) (by decide) (by decide) (by omega)) (fun IM eM => ?_)
                        refine EV.l (lv' := [(0, _), (1, _), (2, _), (3, _)]) r_X11_work_207 rfl ?_
                        refine EV.l (lv' := [(0, _), (1, _), (2, _), (3, _)]) r_X11_work_208 rfl ?_
                        refine EV.getV r_X11_work_209 la_106 ((show IM 106 41 = nI (wrkR S (wrkT S.tp n S.κ (scp isB S.tp n 0)).1).2.2.2 from by rw [eM, cpy_row (by decide)]; exact rmL.2.2.2.2.2.2)) ?_
                        refine EV.pIn r_X11_work_212 la_106 (fun IN eN => ?_)
                        have ps9 : ∀ k, k < S.w + 1 → MS 127 (31 * k) S.κ (if k = S.w then S.η else S.ps k) IN := fun k hk => by
                          have e127 : IN 127 = ME 127 := by rw [eN, wr_row (by decide), eM, cpy_row (by decide), sfL.2 127 (by decide) (by decide) (by decide) (by decide), oK 127 (by decide) (by decide)]
                          by_cases z : k = S.w
                          · rw [if_pos z, z]
                            exact MS.sv sb.cb h.mr (fun j hj => by rw [e127, hx123.2.2.1 j (by omega), oD 125 (by decide) (by decide) (by decide)])
                          · rw [if_neg z]
                            exact (h.ps k (by omega)).ext sb.cb (fun j hj => by rw [e127, hx123.2.2.2 _ (Or.inl (by omega)), oD 127 (by decide) (by decide) (by decide)])
                        refine EV.l (lv' := [(0, _), (1, _), (2, _), (3, _)]) r_X11_work_215 rfl ?_
                        refine EV.getV r_X11_work_216 la_106 ((show IN 106 40 = nI (wrkR S (wrkT S.tp n S.κ (scp isB S.tp n 0)).1).2.2.1 from by rw [eN, wr_ne (Or.inr (by decide)), eM, cpy_row (by decide)]; exact rmL.2.2.2.2.2.1)) ?_
                        exact EV.ri r_X11_work_219 (⟨rfl, h.wrk (fun j hj p2 p8 p37 p38 => by
      have q := scf_t hj
      have q36 : j ≠ 36 := fun e => by subst e; exact absurd hj (by decide)
      rw [eN, wr_ne (Or.inr p38), eM, cpy_row (by decide), sfL.1 j q.2.2.2.2.2.2.2.2.2.1 q.2.2.2.2.2.2.2.2.2.2.1 q.2.2.2.2.2.2.2.2.2.2.2]
      exact jKI j q.1 p2 q.2.1 q.2.2.1 q.2.2.2.1 q.2.2.2.2.1 q.2.2.2.2.2.1 p8 q36 p37 q.2.2.2.2.2.2.2.2.2.1 q.2.2.2.2.2.2.2.2.2.2.1 q.2.2.2.2.2.2.2.2.2.2.2) (by rw [eN, wr_ne (Or.inr (by decide)), eM, cpy_row (by decide), sfL.1 2 (by decide) (by decide) (by decide), jK 2 (by decide) (by decide) (by decide) (by decide), eD, cpy_row (by decide), eB, wr_ne (Or.inr (by decide))]; exact mgx.ln) (by rw [eN, wr_ne (Or.inr (by decide)), eM, cpy_row (by decide), sfL.1 8 (by decide) (by decide) (by decide), jK 8 (by decide) (by decide) (by decide) (by decide), eD, cpy_row (by decide), eB]; exact wr_same) (by rw [eN, wr_ne (Or.inr (by decide)), eM, cpy_row (by decide), sfL.1 37 (by decide) (by decide) (by decide), eK, wr_ne (Or.inr (by decide)), eJ, wr_ne (Or.inr (by decide)), eH, wr_ne (Or.inr (by decide)), eG, cpy_row (by decide), eF]; exact wr_same) (by rw [eN]; exact wr_same) (rmL.2.2.2.1.cpd sb.cb (fun j hj => by rw [eN, wr_row (by decide), eM, cpy_in hj])) ps9 (fun o p1 p2 p3 p4 => by have q := sco_w p4; rw [eN, wr_row p1, eM, cpy_row p2, sfL.2 o p1 q.1 q.2.1 q.2.2.2.2]; exact oKI o p1 q.2.2.1 q.2.2.2.1 q.2.2.2.2 p3), fun o ho => by rw [eN, wr_row (by omega), eM, cpy_row (by omega), sfL.2 o (by omega) (by omega) (by omega) (by omega)]; exact oKI o (by omega) (by omega) (by omega) (by omega) (by omega), by rw [eN, wr_ne (Or.inr (by decide)), eM, cpy_row (by decide), sfL.1 0 (by decide) (by decide) (by decide), jK 0 (by decide) (by decide) (by decide) (by decide), eD, cpy_row (by decide), eB, wr_ne (Or.inr (by decide))]; exact f0⟩)
                      · -- 126 f
                        refine EV.l (lv' := [(0, _), (1, _), (2, _), (3, _)]) r_X11_work_129 rfl ?_
                        refine EV.gR r_X11_work_130 la_106 ?_
                        refine EV.o r_X11_work_133 (bpN (31) 31) ?_
                        refine EV.l (lv' := [(0, _), (1, _), (2, _), (3, _)]) r_X11_work_135 rfl ?_
                        refine EV.getV r_X11_work_136 la_106 (w123) ?_
                        refine EV.o r_X11_work_139 imulN ?_
                        refine EV.l (lv' := [(0, _), (1, _), (2, _), (3, _)]) r_X11_work_140 rfl ?_
                        refine EV.o r_X11_work_141 iaddN ?_
                        refine EV.l (lv' := [(0, _), (1, _), (2, _), (3, _)]) r_X11_work_142 rfl ?_
                        refine EV.gR r_X11_work_143 la_106 ?_
                        refine EV.l (lv' := [(0, _), (1, _), (2, _), (3, _)]) r_X11_work_146 rfl ?_
                        refine EV.iaN r_X11_work_147 la_125 rfl ?_
                        refine EV.iaSn r_X11_work_148 la_127 (fun IX eX => ?_)
                        refine EV.l (lv' := [(0, _), (1, _), (2, _), (3, _)]) r_X11_work_149 rfl ?_
                        rw [inc_nI]
                        refine EV.g r_X11_work_152 ?_
                        refine EV.sub ?_ rfl ?_ (ih123 (c + 1, IX) ?_ ?_)
                        · (try dsimp only) <;> (rfl)
                        · (try dsimp only) <;> (rfl)
                        · (try dsimp only) <;> (omega)
                        · (try dsimp only) <;> (exact ⟨by omega, fun o ho => by rw [eX, wr_row ho]; exact hx123.2.1 o ho, fun j hj => (Nat.lt_or_ge j c).elim (fun z => by rw [eX, wr_ne (Or.inr (by omega))]; exact hx123.2.2.1 j z) (fun z => by rw [show j = c by omega, eX, wr_same, hx123.2.1 125 (by decide)]), fun k hk => by rw [eX, wr_ne (Or.inr (by omega))]; exact hx123.2.2.2 k hk⟩)
                    have h0 := L123 (0, ID)
                    try dsimp only at h0
                    refine EV.sub ?_ rfl ?_ (h0 ?_)
                    · (try dsimp only) <;> (rfl)
                    · (try dsimp only) <;> (rfl)
                    · (try dsimp only) <;> (exact ⟨by decide, fun o _ => rfl, fun j hj => absurd hj (Nat.not_lt_zero j), fun _ _ => rfl⟩)
                  · omega
                · -- 79 f
                  refine EV.l (lv' := [(0, _), (1, _)]) r_X11_work_82 rfl ?_
                  refine EV.cu r_X11_work_83 (aV0 mt_209 la_106) (m_stT sb.tp hn sb.cb 6 0 rfl d' I5 J Q s1 (by omega) ls5) (fun I6 h6 => ?_)
                  have hx9 := hx68.next (stT_pg 6) hn h79 h6.1 (mp5.mo.vg.tr h6.2)
                  have is1 := hx68.2.2.2 s1 rfl
                  refine EV.g r_X11_work_86 ?_
                  refine EV.sub ?_ rfl ?_ (ih68 (i + 1, (sgs S.tp n (stT S.tp n S.κ 6)) Q s1, I6) ?_ ?_)
                  · (try dsimp only) <;> (rfl)
                  · (try dsimp only) <;> (rfl)
                  · (try dsimp only) <;> (omega)
                  · (try dsimp only) <;> (exact hx9)
            have h0 := L68 (0, (pl0, .inl (scp isB S.tp n 0)), I3)
            try dsimp only at h0
            refine EV.sub ?_ rfl ?_ (h0 ?_)
            · (try dsimp only) <;> (rfl)
            · (try dsimp only) <;> (rfl)
            · (try dsimp only) <;> (exact ⟨ls3, VG.rf, rfl, fun _ _ => Nat.zero_le _⟩)
          · omega
        · omega
