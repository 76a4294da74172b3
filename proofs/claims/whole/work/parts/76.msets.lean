/-! COURT: the model. -/
/-- the row of now, behind so many sayings, birds, counsel -/
def nowF (κ : CT) (a b c : Nat) (j : Nat) : Nat := if j < a then κ.sm j else if 18 ≤ j ∧ j < 18 + b then κ.bm (j - 18) else if 26 ≤ j ∧ j < 26 + c then κ.cc (j - 26) else 0
theorem nowF_a {κ : CT} {M : Nat → Nat → Int32} {i : Nat} (hi : i < 9) (h : ∀ j, j < 31 → M 125 j = nI (nowF κ i 0 0 j)) : ∀ j, j < 31 → wr M 125 (0 + i) (nI (κ.sm i)) 125 j = nI (nowF κ (i + 1) 0 0 j) := by
  intro j hj
  by_cases e : j = i
  · subst e
    rw [Nat.zero_add, wr_same]
    unfold nowF
    rw [if_pos (by omega)]
  · rw [wr_ne (Or.inr (by omega)), h j hj]
    unfold nowF
    (repeat' split) <;> first | rfl | (exfalso; omega)
theorem nowF_b {κ : CT} {M : Nat → Nat → Int32} {a i : Nat} (ha : a ≤ 9) (hi : i < 4) (h : ∀ j, j < 31 → M 125 j = nI (nowF κ a i 0 j)) : ∀ j, j < 31 → wr M 125 (18 + i) (nI (κ.bm i)) 125 j = nI (nowF κ a (i + 1) 0 j) := by
  intro j hj
  by_cases e : j = 18 + i
  · subst e
    rw [wr_same]
    unfold nowF
    rw [if_neg (by omega), if_pos (by omega), show 18 + i - 18 = i by omega]
  · rw [wr_ne (Or.inr (by omega)), h j hj]
    unfold nowF
    (repeat' split) <;> first | rfl | (exfalso; omega)
theorem nowF_c {κ : CT} {M : Nat → Nat → Int32} {a b i : Nat} (ha : a ≤ 9) (hb_ : b ≤ 4) (hi : i < 4) (h : ∀ j, j < 31 → M 125 j = nI (nowF κ a b i j)) : ∀ j, j < 31 → wr M 125 (26 + i) (nI (κ.cc i)) 125 j = nI (nowF κ a b (i + 1) j) := by
  intro j hj
  by_cases e : j = 26 + i
  · subst e
    rw [wr_same]
    unfold nowF
    rw [if_neg (by omega), if_neg (by omega), if_pos (by omega), show 26 + i - 26 = i by omega]
  · rw [wr_ne (Or.inr (by omega)), h j hj]
    unfold nowF
    (repeat' split) <;> first | rfl | (exfalso; omega)
theorem nowF_mr {κ : CT} {w : Nat → Nat} {M : Nat → Nat → Int32} (cb : CB κ) (h : ∀ j, j < 31 → M 125 j = nI (nowF κ κ.ns κ.nb κ.nc j)) : MR 125 κ (beg κ w) M := by
  have := cb.ns; have := cb.nb; have := cb.nc
  refine ⟨fun j hj => ?_, fun j hj => ?_, fun j hj => ?_, fun j hj => ?_, fun j hj => ?_, ?_⟩
  · rw [h _ (by omega), Nat.zero_add]
    unfold nowF
    rw [if_pos hj]
    rfl
  · rw [h _ (by omega)]
    unfold nowF
    rw [if_neg (by omega), if_neg (by omega), if_neg (by omega)]
    show nI 0 = nI (Nat.testBit 0 j).toNat
    rw [Nat.zero_testBit]
    rfl
  · rw [h _ (by omega)]
    unfold nowF
    rw [if_neg (by omega), if_pos (by omega), show 18 + j - 18 = j by omega]
    rfl
  · rw [h _ (by omega)]
    unfold nowF
    rw [if_neg (by omega), if_neg (by omega), if_neg (by omega)]
    rfl
  · rw [h _ (by omega)]
    unfold nowF
    rw [if_neg (by omega), if_neg (by omega), if_pos (by omega), show 26 + j - 26 = j by omega]
    rfl
  · rw [h 30 (by decide)]
    unfold nowF
    rw [if_neg (by omega), if_neg (by omega), if_neg (by omega)]
    rfl
theorem wr_m1 {I : Nat → Nat → Int32} {o k : Nat} {v : Int32} (h : ∀ j, j < k → I o j = v) : ∀ j, j < k + 1 → wr I o k v o j = v := by
  intro j hj
  by_cases e : j = k
  · subst e; exact wr_same
  · rw [wr_ne (Or.inr e)]; exact h j (by omega)
theorem r_X11_sets_0 : RW M_X11_sets 0 (.aload_n 0) 1 0 0 1 := ⟨rfl, rfl⟩
theorem r_X11_sets_1 : RW M_X11_sets 1 (.aload_n 0) 1 0 0 2 := ⟨rfl, rfl⟩
theorem r_X11_sets_2 : RW M_X11_sets 2 (.getfield 154) 3 11 18 5 := ⟨rfl, rfl⟩
theorem r_X11_sets_5 : RW M_X11_sets 5 (.putfield 166) 3 11 22 8 := ⟨rfl, rfl⟩
theorem r_X11_sets_8 : RW M_X11_sets 8 (.aload_n 0) 1 0 0 9 := ⟨rfl, rfl⟩
theorem r_X11_sets_9 : RW M_X11_sets 9 (.aload_n 0) 1 0 0 10 := ⟨rfl, rfl⟩
theorem r_X11_sets_10 : RW M_X11_sets 10 (.getfield 157) 3 11 19 13 := ⟨rfl, rfl⟩
theorem r_X11_sets_13 : RW M_X11_sets 13 (.putfield 169) 3 11 23 16 := ⟨rfl, rfl⟩
theorem r_X11_sets_16 : RW M_X11_sets 16 (.aload_n 0) 1 0 0 17 := ⟨rfl, rfl⟩
theorem r_X11_sets_17 : RW M_X11_sets 17 (.aload_n 0) 1 0 0 18 := ⟨rfl, rfl⟩
theorem r_X11_sets_18 : RW M_X11_sets 18 (.getfield 160) 3 11 20 21 := ⟨rfl, rfl⟩
theorem r_X11_sets_21 : RW M_X11_sets 21 (.putfield 172) 3 11 24 24 := ⟨rfl, rfl⟩
theorem r_X11_sets_24 : RW M_X11_sets 24 (.aload_n 0) 1 0 0 25 := ⟨rfl, rfl⟩
theorem r_X11_sets_25 : RW M_X11_sets 25 (.aload_n 0) 1 0 0 26 := ⟨rfl, rfl⟩
theorem r_X11_sets_26 : RW M_X11_sets 26 (.getfield 163) 3 11 21 29 := ⟨rfl, rfl⟩
theorem r_X11_sets_29 : RW M_X11_sets 29 (.putfield 175) 3 11 25 32 := ⟨rfl, rfl⟩
theorem r_X11_sets_32 : RW M_X11_sets 32 (.aload_n 0) 1 0 0 33 := ⟨rfl, rfl⟩
theorem r_X11_sets_33 : RW M_X11_sets 33 (.aload_n 0) 1 0 0 34 := ⟨rfl, rfl⟩
theorem r_X11_sets_34 : RW M_X11_sets 34 (.getfield 23) 3 11 10 37 := ⟨rfl, rfl⟩
theorem r_X11_sets_37 : RW M_X11_sets 37 (.aload_n 0) 1 0 0 38 := ⟨rfl, rfl⟩
theorem r_X11_sets_38 : RW M_X11_sets 38 (.getfield 35) 3 11 14 41 := ⟨rfl, rfl⟩
theorem r_X11_sets_41 : RW M_X11_sets 41 (.bipush 27) 2 0 0 43 := ⟨rfl, rfl⟩
theorem r_X11_sets_43 : RW M_X11_sets 43 (.invokevirtual 178) 3 187 0 46 := ⟨rfl, rfl⟩
theorem r_X11_sets_46 : RW M_X11_sets 46 (.aload_n 0) 1 0 0 47 := ⟨rfl, rfl⟩
theorem r_X11_sets_47 : RW M_X11_sets 47 (.aload_n 0) 1 0 0 48 := ⟨rfl, rfl⟩
theorem r_X11_sets_48 : RW M_X11_sets 48 (.getfield 26) 3 11 11 51 := ⟨rfl, rfl⟩
theorem r_X11_sets_51 : RW M_X11_sets 51 (.aload_n 0) 1 0 0 52 := ⟨rfl, rfl⟩
theorem r_X11_sets_52 : RW M_X11_sets 52 (.getfield 38) 3 11 15 55 := ⟨rfl, rfl⟩
theorem r_X11_sets_55 : RW M_X11_sets 55 (.bipush 36) 2 0 0 57 := ⟨rfl, rfl⟩
theorem r_X11_sets_57 : RW M_X11_sets 57 (.invokevirtual 178) 3 187 0 60 := ⟨rfl, rfl⟩
theorem r_X11_sets_60 : RW M_X11_sets 60 (.aload_n 0) 1 0 0 61 := ⟨rfl, rfl⟩
theorem r_X11_sets_61 : RW M_X11_sets 61 (.aload_n 0) 1 0 0 62 := ⟨rfl, rfl⟩
theorem r_X11_sets_62 : RW M_X11_sets 62 (.getfield 29) 3 11 12 65 := ⟨rfl, rfl⟩
theorem r_X11_sets_65 : RW M_X11_sets 65 (.aload_n 0) 1 0 0 66 := ⟨rfl, rfl⟩
theorem r_X11_sets_66 : RW M_X11_sets 66 (.getfield 41) 3 11 16 69 := ⟨rfl, rfl⟩
theorem r_X11_sets_69 : RW M_X11_sets 69 (.bipush 8) 2 0 0 71 := ⟨rfl, rfl⟩
theorem r_X11_sets_71 : RW M_X11_sets 71 (.invokevirtual 178) 3 187 0 74 := ⟨rfl, rfl⟩
theorem r_X11_sets_74 : RW M_X11_sets 74 (.aload_n 0) 1 0 0 75 := ⟨rfl, rfl⟩
theorem r_X11_sets_75 : RW M_X11_sets 75 (.aload_n 0) 1 0 0 76 := ⟨rfl, rfl⟩
theorem r_X11_sets_76 : RW M_X11_sets 76 (.getfield 32) 3 11 13 79 := ⟨rfl, rfl⟩
theorem r_X11_sets_79 : RW M_X11_sets 79 (.aload_n 0) 1 0 0 80 := ⟨rfl, rfl⟩
theorem r_X11_sets_80 : RW M_X11_sets 80 (.getfield 44) 3 11 17 83 := ⟨rfl, rfl⟩
theorem r_X11_sets_83 : RW M_X11_sets 83 (.bipush 8) 2 0 0 85 := ⟨rfl, rfl⟩
theorem r_X11_sets_85 : RW M_X11_sets 85 (.invokevirtual 178) 3 187 0 88 := ⟨rfl, rfl⟩
theorem r_X11_sets_88 : RW M_X11_sets 88 (.aload_n 0) 1 0 0 89 := ⟨rfl, rfl⟩
theorem r_X11_sets_89 : RW M_X11_sets 89 (.iconst 0) 1 0 0 90 := ⟨rfl, rfl⟩
theorem r_X11_sets_90 : RW M_X11_sets 90 (.putfield 182) 3 11 32 93 := ⟨rfl, rfl⟩
theorem r_X11_sets_93 : RW M_X11_sets 93 (.aload_n 0) 1 0 0 94 := ⟨rfl, rfl⟩
theorem r_X11_sets_94 : RW M_X11_sets 94 (.iconst 0) 1 0 0 95 := ⟨rfl, rfl⟩
theorem r_X11_sets_95 : RW M_X11_sets 95 (.putfield 185) 3 11 47 98 := ⟨rfl, rfl⟩
theorem r_X11_sets_98 : RW M_X11_sets 98 (.aload_n 0) 1 0 0 99 := ⟨rfl, rfl⟩
theorem r_X11_sets_99 : RW M_X11_sets 99 (.iconst 0) 1 0 0 100 := ⟨rfl, rfl⟩
theorem r_X11_sets_100 : RW M_X11_sets 100 (.putfield 188) 3 11 37 103 := ⟨rfl, rfl⟩
theorem r_X11_sets_103 : RW M_X11_sets 103 (.aload_n 0) 1 0 0 104 := ⟨rfl, rfl⟩
theorem r_X11_sets_104 : RW M_X11_sets 104 (.iconst 0) 1 0 0 105 := ⟨rfl, rfl⟩
theorem r_X11_sets_105 : RW M_X11_sets 105 (.putfield 191) 3 11 55 108 := ⟨rfl, rfl⟩
theorem r_X11_sets_108 : RW M_X11_sets 108 (.aload_n 0) 1 0 0 109 := ⟨rfl, rfl⟩
theorem r_X11_sets_109 : RW M_X11_sets 109 (.iconst 0) 1 0 0 110 := ⟨rfl, rfl⟩
theorem r_X11_sets_110 : RW M_X11_sets 110 (.putfield 194) 3 11 38 113 := ⟨rfl, rfl⟩
theorem r_X11_sets_113 : RW M_X11_sets 113 (.iconst 0) 1 0 0 114 := ⟨rfl, rfl⟩
theorem r_X11_sets_114 : RW M_X11_sets 114 (.istore_n 1) 1 0 0 115 := ⟨rfl, rfl⟩
theorem r_X11_sets_115 : RW M_X11_sets 115 (.iload_n 1) 1 0 0 116 := ⟨rfl, rfl⟩
theorem r_X11_sets_116 : RW M_X11_sets 116 (.bipush 9) 2 0 0 118 := ⟨rfl, rfl⟩
theorem r_X11_sets_118 : RW M_X11_sets 118 (.if_icmp .ge 16) 3 134 0 121 := ⟨rfl, rfl⟩
theorem r_X11_sets_121 : RW M_X11_sets 121 (.aload_n 0) 1 0 0 122 := ⟨rfl, rfl⟩
theorem r_X11_sets_122 : RW M_X11_sets 122 (.getfield 83) 3 11 46 125 := ⟨rfl, rfl⟩
theorem r_X11_sets_125 : RW M_X11_sets 125 (.iload_n 1) 1 0 0 126 := ⟨rfl, rfl⟩
theorem r_X11_sets_126 : RW M_X11_sets 126 (.iconst (-1)) 1 0 0 127 := ⟨rfl, rfl⟩
theorem r_X11_sets_127 : RW M_X11_sets 127 (.iastore) 1 0 0 128 := ⟨rfl, rfl⟩
theorem r_X11_sets_128 : RW M_X11_sets 128 (.iinc 1 1) 3 0 0 131 := ⟨rfl, rfl⟩
theorem r_X11_sets_131 : RW M_X11_sets 131 (.goto (-16)) 3 115 0 134 := ⟨rfl, rfl⟩
theorem r_X11_sets_134 : RW M_X11_sets 134 (.iconst 0) 1 0 0 135 := ⟨rfl, rfl⟩
theorem r_X11_sets_135 : RW M_X11_sets 135 (.istore_n 1) 1 0 0 136 := ⟨rfl, rfl⟩
theorem r_X11_sets_136 : RW M_X11_sets 136 (.iload_n 1) 1 0 0 137 := ⟨rfl, rfl⟩
theorem r_X11_sets_137 : RW M_X11_sets 137 (.bipush 31) 2 0 0 139 := ⟨rfl, rfl⟩
theorem r_X11_sets_139 : RW M_X11_sets 139 (.if_icmp .ge 16) 3 155 0 142 := ⟨rfl, rfl⟩
theorem r_X11_sets_142 : RW M_X11_sets 142 (.aload_n 0) 1 0 0 143 := ⟨rfl, rfl⟩
theorem r_X11_sets_143 : RW M_X11_sets 143 (.getfield 71) 3 11 42 146 := ⟨rfl, rfl⟩
theorem r_X11_sets_146 : RW M_X11_sets 146 (.iload_n 1) 1 0 0 147 := ⟨rfl, rfl⟩
theorem r_X11_sets_147 : RW M_X11_sets 147 (.iconst 0) 1 0 0 148 := ⟨rfl, rfl⟩
theorem r_X11_sets_148 : RW M_X11_sets 148 (.iastore) 1 0 0 149 := ⟨rfl, rfl⟩
theorem r_X11_sets_149 : RW M_X11_sets 149 (.iinc 1 1) 3 0 0 152 := ⟨rfl, rfl⟩
theorem r_X11_sets_152 : RW M_X11_sets 152 (.goto (-16)) 3 136 0 155 := ⟨rfl, rfl⟩
theorem r_X11_sets_155 : RW M_X11_sets 155 (.iconst 0) 1 0 0 156 := ⟨rfl, rfl⟩
theorem r_X11_sets_156 : RW M_X11_sets 156 (.istore_n 1) 1 0 0 157 := ⟨rfl, rfl⟩
theorem r_X11_sets_157 : RW M_X11_sets 157 (.iload_n 1) 1 0 0 158 := ⟨rfl, rfl⟩
theorem r_X11_sets_158 : RW M_X11_sets 158 (.aload_n 0) 1 0 0 159 := ⟨rfl, rfl⟩
theorem r_X11_sets_159 : RW M_X11_sets 159 (.getfield 166) 3 11 22 162 := ⟨rfl, rfl⟩
theorem r_X11_sets_162 : RW M_X11_sets 162 (.if_icmp .ge 25) 3 187 0 165 := ⟨rfl, rfl⟩
theorem r_X11_sets_165 : RW M_X11_sets 165 (.aload_n 0) 1 0 0 166 := ⟨rfl, rfl⟩
theorem r_X11_sets_166 : RW M_X11_sets 166 (.getfield 71) 3 11 42 169 := ⟨rfl, rfl⟩
theorem r_X11_sets_169 : RW M_X11_sets 169 (.iconst 0) 1 0 0 170 := ⟨rfl, rfl⟩
theorem r_X11_sets_170 : RW M_X11_sets 170 (.iload_n 1) 1 0 0 171 := ⟨rfl, rfl⟩
theorem r_X11_sets_171 : RW M_X11_sets 171 (.iadd) 1 0 0 172 := ⟨rfl, rfl⟩
theorem r_X11_sets_172 : RW M_X11_sets 172 (.aload_n 0) 1 0 0 173 := ⟨rfl, rfl⟩
theorem r_X11_sets_173 : RW M_X11_sets 173 (.getfield 35) 3 11 14 176 := ⟨rfl, rfl⟩
theorem r_X11_sets_176 : RW M_X11_sets 176 (.iconst 3) 1 0 0 177 := ⟨rfl, rfl⟩
theorem r_X11_sets_177 : RW M_X11_sets 177 (.iload_n 1) 1 0 0 178 := ⟨rfl, rfl⟩
theorem r_X11_sets_178 : RW M_X11_sets 178 (.imul) 1 0 0 179 := ⟨rfl, rfl⟩
theorem r_X11_sets_179 : RW M_X11_sets 179 (.iaload) 1 0 0 180 := ⟨rfl, rfl⟩
theorem r_X11_sets_180 : RW M_X11_sets 180 (.iastore) 1 0 0 181 := ⟨rfl, rfl⟩
theorem r_X11_sets_181 : RW M_X11_sets 181 (.iinc 1 1) 3 0 0 184 := ⟨rfl, rfl⟩
theorem r_X11_sets_184 : RW M_X11_sets 184 (.goto (-27)) 3 157 0 187 := ⟨rfl, rfl⟩
theorem r_X11_sets_187 : RW M_X11_sets 187 (.iconst 0) 1 0 0 188 := ⟨rfl, rfl⟩
theorem r_X11_sets_188 : RW M_X11_sets 188 (.istore_n 1) 1 0 0 189 := ⟨rfl, rfl⟩
theorem r_X11_sets_189 : RW M_X11_sets 189 (.iload_n 1) 1 0 0 190 := ⟨rfl, rfl⟩
theorem r_X11_sets_190 : RW M_X11_sets 190 (.aload_n 0) 1 0 0 191 := ⟨rfl, rfl⟩
theorem r_X11_sets_191 : RW M_X11_sets 191 (.getfield 172) 3 11 24 194 := ⟨rfl, rfl⟩
theorem r_X11_sets_194 : RW M_X11_sets 194 (.if_icmp .ge 26) 3 220 0 197 := ⟨rfl, rfl⟩
theorem r_X11_sets_197 : RW M_X11_sets 197 (.aload_n 0) 1 0 0 198 := ⟨rfl, rfl⟩
theorem r_X11_sets_198 : RW M_X11_sets 198 (.getfield 71) 3 11 42 201 := ⟨rfl, rfl⟩
theorem r_X11_sets_201 : RW M_X11_sets 201 (.bipush 18) 2 0 0 203 := ⟨rfl, rfl⟩
theorem r_X11_sets_203 : RW M_X11_sets 203 (.iload_n 1) 1 0 0 204 := ⟨rfl, rfl⟩
theorem r_X11_sets_204 : RW M_X11_sets 204 (.iadd) 1 0 0 205 := ⟨rfl, rfl⟩
theorem r_X11_sets_205 : RW M_X11_sets 205 (.aload_n 0) 1 0 0 206 := ⟨rfl, rfl⟩
theorem r_X11_sets_206 : RW M_X11_sets 206 (.getfield 41) 3 11 16 209 := ⟨rfl, rfl⟩
theorem r_X11_sets_209 : RW M_X11_sets 209 (.iconst 2) 1 0 0 210 := ⟨rfl, rfl⟩
theorem r_X11_sets_210 : RW M_X11_sets 210 (.iload_n 1) 1 0 0 211 := ⟨rfl, rfl⟩
theorem r_X11_sets_211 : RW M_X11_sets 211 (.imul) 1 0 0 212 := ⟨rfl, rfl⟩
theorem r_X11_sets_212 : RW M_X11_sets 212 (.iaload) 1 0 0 213 := ⟨rfl, rfl⟩
theorem r_X11_sets_213 : RW M_X11_sets 213 (.iastore) 1 0 0 214 := ⟨rfl, rfl⟩
theorem r_X11_sets_214 : RW M_X11_sets 214 (.iinc 1 1) 3 0 0 217 := ⟨rfl, rfl⟩
theorem r_X11_sets_217 : RW M_X11_sets 217 (.goto (-28)) 3 189 0 220 := ⟨rfl, rfl⟩
theorem r_X11_sets_220 : RW M_X11_sets 220 (.iconst 0) 1 0 0 221 := ⟨rfl, rfl⟩
theorem r_X11_sets_221 : RW M_X11_sets 221 (.istore_n 1) 1 0 0 222 := ⟨rfl, rfl⟩
theorem r_X11_sets_222 : RW M_X11_sets 222 (.iload_n 1) 1 0 0 223 := ⟨rfl, rfl⟩
theorem r_X11_sets_223 : RW M_X11_sets 223 (.aload_n 0) 1 0 0 224 := ⟨rfl, rfl⟩
theorem r_X11_sets_224 : RW M_X11_sets 224 (.getfield 175) 3 11 25 227 := ⟨rfl, rfl⟩
theorem r_X11_sets_227 : RW M_X11_sets 227 (.if_icmp .ge 26) 3 253 0 230 := ⟨rfl, rfl⟩
theorem r_X11_sets_230 : RW M_X11_sets 230 (.aload_n 0) 1 0 0 231 := ⟨rfl, rfl⟩
theorem r_X11_sets_231 : RW M_X11_sets 231 (.getfield 71) 3 11 42 234 := ⟨rfl, rfl⟩
theorem r_X11_sets_234 : RW M_X11_sets 234 (.bipush 26) 2 0 0 236 := ⟨rfl, rfl⟩
theorem r_X11_sets_236 : RW M_X11_sets 236 (.iload_n 1) 1 0 0 237 := ⟨rfl, rfl⟩
theorem r_X11_sets_237 : RW M_X11_sets 237 (.iadd) 1 0 0 238 := ⟨rfl, rfl⟩
theorem r_X11_sets_238 : RW M_X11_sets 238 (.aload_n 0) 1 0 0 239 := ⟨rfl, rfl⟩
theorem r_X11_sets_239 : RW M_X11_sets 239 (.getfield 44) 3 11 17 242 := ⟨rfl, rfl⟩
theorem r_X11_sets_242 : RW M_X11_sets 242 (.iconst 2) 1 0 0 243 := ⟨rfl, rfl⟩
theorem r_X11_sets_243 : RW M_X11_sets 243 (.iload_n 1) 1 0 0 244 := ⟨rfl, rfl⟩
theorem r_X11_sets_244 : RW M_X11_sets 244 (.imul) 1 0 0 245 := ⟨rfl, rfl⟩
theorem r_X11_sets_245 : RW M_X11_sets 245 (.iaload) 1 0 0 246 := ⟨rfl, rfl⟩
theorem r_X11_sets_246 : RW M_X11_sets 246 (.iastore) 1 0 0 247 := ⟨rfl, rfl⟩
theorem r_X11_sets_247 : RW M_X11_sets 247 (.iinc 1 1) 3 0 0 250 := ⟨rfl, rfl⟩
theorem r_X11_sets_250 : RW M_X11_sets 250 (.goto (-28)) 3 222 0 253 := ⟨rfl, rfl⟩
theorem r_X11_sets_253 : RW M_X11_sets 253 (.return_) 1 0 0 254 := ⟨rfl, rfl⟩
theorem m_sets {d : Nat} {I : Nat → Nat → Int32} {J : Nat → Nat → Int64} {κ : CT} {w : Nat → Nat} (mc_ : MCd κ I) (cb : CB κ)  (hd : 4 ≤ d) : RU d 189 [.ref 106] I J (fun I' => MC κ I' ∧ MR 125 κ (beg κ w) I' ∧ (I' 106 32 = nI 0 ∧ I' 106 47 = nI 0 ∧ I' 106 37 = nI 0 ∧ I' 106 55 = nI 0 ∧ I' 106 38 = nI 0) ∧ (∀ j, j < 9 → I' 129 j = zI (-1)) ∧ (∀ o, o ≠ 106 → (o < 113 ∨ 116 < o) → o ≠ 125 → o ≠ 129 → I' o = I o) ∧ ∀ j, j < 22 → I' 106 j = I 106 j) := by
  refine RU.in (d0 := 3) hd mt_189 (Nat.le_of_ble_eq_true rfl) (fun d' hd' => ?_)
  have bns := cb.ns; have bnr := cb.nr; have bnb := cb.nb; have bnc := cb.nc
  show EV none M_X11_sets d' 0 [(0, .ref 106)] [] (hp I J) _
  refine EV.l (lv' := [(0, _)]) r_X11_sets_0 rfl ?_
  refine EV.l (lv' := [(0, _)]) r_X11_sets_1 rfl ?_
  refine EV.getV r_X11_sets_2 la_106 (mc_.ns) ?_
  refine EV.pIn r_X11_sets_5 la_106 (fun K1 e1 => ?_)
  refine EV.l (lv' := [(0, _)]) r_X11_sets_8 rfl ?_
  refine EV.l (lv' := [(0, _)]) r_X11_sets_9 rfl ?_
  refine EV.getV r_X11_sets_10 la_106 ((((congrFun (congrFun e1 106) 19).trans (wr_ne (Or.inr (by decide)))).trans mc_.nr)) ?_
  refine EV.pIn r_X11_sets_13 la_106 (fun K2 e2 => ?_)
  refine EV.l (lv' := [(0, _)]) r_X11_sets_16 rfl ?_
  refine EV.l (lv' := [(0, _)]) r_X11_sets_17 rfl ?_
  refine EV.getV r_X11_sets_18 la_106 (((((congrFun (congrFun e2 106) 20).trans (wr_ne (Or.inr (by decide)))).trans ((congrFun (congrFun e1 106) 20).trans (wr_ne (Or.inr (by decide))))).trans mc_.nb)) ?_
  refine EV.pIn r_X11_sets_21 la_106 (fun K3 e3 => ?_)
  refine EV.l (lv' := [(0, _)]) r_X11_sets_24 rfl ?_
  refine EV.l (lv' := [(0, _)]) r_X11_sets_25 rfl ?_
  refine EV.getV r_X11_sets_26 la_106 (((((congrFun (congrFun e3 106) 21).trans (wr_ne (Or.inr (by decide)))).trans (((congrFun (congrFun e2 106) 21).trans (wr_ne (Or.inr (by decide)))).trans ((congrFun (congrFun e1 106) 21).trans (wr_ne (Or.inr (by decide)))))).trans mc_.nc)) ?_
  refine EV.pIn r_X11_sets_29 la_106 (fun K4 e4 => ?_)
  refine EV.l (lv' := [(0, _)]) r_X11_sets_32 rfl ?_
  refine EV.l (lv' := [(0, _)]) r_X11_sets_33 rfl ?_
  refine EV.gR r_X11_sets_34 la_106 ?_
  refine EV.l (lv' := [(0, _)]) r_X11_sets_37 rfl ?_
  refine EV.gR r_X11_sets_38 la_106 ?_
  refine EV.o r_X11_sets_41 (bpN (27) 27) ?_
  refine EV.cu r_X11_sets_43 (aV3 mt_187 la_106) (m_copies la_109 la_113 (by decide) (by decide) (by decide) (by decide) (by decide) (by decide) (by decide) (by omega)) (fun K5 e5 => ?_)
  have g5 : ∀ x, x ≠ 113 → K5 x = K4 x := fun x hx => by rw [e5]; exact cpy_row hx
  have v5 : ∀ j, j < 27 → K5 113 j = K4 109 (0 + j) := fun j hj => by rw [e5]; exact cpy_at0 hj
  refine EV.l (lv' := [(0, _)]) r_X11_sets_46 rfl ?_
  refine EV.l (lv' := [(0, _)]) r_X11_sets_47 rfl ?_
  refine EV.gR r_X11_sets_48 la_106 ?_
  refine EV.l (lv' := [(0, _)]) r_X11_sets_51 rfl ?_
  refine EV.gR r_X11_sets_52 la_106 ?_
  refine EV.o r_X11_sets_55 (bpN (36) 36) ?_
  refine EV.cu r_X11_sets_57 (aV3 mt_187 la_106) (m_copies la_110 la_114 (by decide) (by decide) (by decide) (by decide) (by decide) (by decide) (by decide) (by omega)) (fun K6 e6 => ?_)
  have g6 : ∀ x, x ≠ 114 → K6 x = K5 x := fun x hx => by rw [e6]; exact cpy_row hx
  have v6 : ∀ j, j < 36 → K6 114 j = K5 110 (0 + j) := fun j hj => by rw [e6]; exact cpy_at0 hj
  refine EV.l (lv' := [(0, _)]) r_X11_sets_60 rfl ?_
  refine EV.l (lv' := [(0, _)]) r_X11_sets_61 rfl ?_
  refine EV.gR r_X11_sets_62 la_106 ?_
  refine EV.l (lv' := [(0, _)]) r_X11_sets_65 rfl ?_
  refine EV.gR r_X11_sets_66 la_106 ?_
  refine EV.o r_X11_sets_69 (bpN (8) 8) ?_
  refine EV.cu r_X11_sets_71 (aV3 mt_187 la_106) (m_copies la_111 la_115 (by decide) (by decide) (by decide) (by decide) (by decide) (by decide) (by decide) (by omega)) (fun K7 e7 => ?_)
  have g7 : ∀ x, x ≠ 115 → K7 x = K6 x := fun x hx => by rw [e7]; exact cpy_row hx
  have v7 : ∀ j, j < 8 → K7 115 j = K6 111 (0 + j) := fun j hj => by rw [e7]; exact cpy_at0 hj
  refine EV.l (lv' := [(0, _)]) r_X11_sets_74 rfl ?_
  refine EV.l (lv' := [(0, _)]) r_X11_sets_75 rfl ?_
  refine EV.gR r_X11_sets_76 la_106 ?_
  refine EV.l (lv' := [(0, _)]) r_X11_sets_79 rfl ?_
  refine EV.gR r_X11_sets_80 la_106 ?_
  refine EV.o r_X11_sets_83 (bpN (8) 8) ?_
  refine EV.cu r_X11_sets_85 (aV3 mt_187 la_106) (m_copies la_112 la_116 (by decide) (by decide) (by decide) (by decide) (by decide) (by decide) (by decide) (by omega)) (fun K8 e8 => ?_)
  have g8 : ∀ x, x ≠ 116 → K8 x = K7 x := fun x hx => by rw [e8]; exact cpy_row hx
  have v8 : ∀ j, j < 8 → K8 116 j = K7 112 (0 + j) := fun j hj => by rw [e8]; exact cpy_at0 hj
  refine EV.l (lv' := [(0, _)]) r_X11_sets_88 rfl ?_
  refine EV.o r_X11_sets_89 (icN (0) (v := 0)) ?_
  refine EV.pIn r_X11_sets_90 la_106 (fun K9 e9 => ?_)
  refine EV.l (lv' := [(0, _)]) r_X11_sets_93 rfl ?_
  refine EV.o r_X11_sets_94 (icN (0) (v := 0)) ?_
  refine EV.pIn r_X11_sets_95 la_106 (fun K10 e10 => ?_)
  refine EV.l (lv' := [(0, _)]) r_X11_sets_98 rfl ?_
  refine EV.o r_X11_sets_99 (icN (0) (v := 0)) ?_
  refine EV.pIn r_X11_sets_100 la_106 (fun K11 e11 => ?_)
  refine EV.l (lv' := [(0, _)]) r_X11_sets_103 rfl ?_
  refine EV.o r_X11_sets_104 (icN (0) (v := 0)) ?_
  refine EV.pIn r_X11_sets_105 la_106 (fun K12 e12 => ?_)
  refine EV.l (lv' := [(0, _)]) r_X11_sets_108 rfl ?_
  refine EV.o r_X11_sets_109 (icN (0) (v := 0)) ?_
  refine EV.pIn r_X11_sets_110 la_106 (fun K13 e13 => ?_)
  have mcK : MC κ K13 := ⟨((((congrFun (congrFun e13 106) 22).trans (wr_ne (Or.inr (by decide)))).trans (((congrFun (congrFun e12 106) 22).trans (wr_ne (Or.inr (by decide)))).trans (((congrFun (congrFun e11 106) 22).trans (wr_ne (Or.inr (by decide)))).trans (((congrFun (congrFun e10 106) 22).trans (wr_ne (Or.inr (by decide)))).trans (((congrFun (congrFun e9 106) 22).trans (wr_ne (Or.inr (by decide)))).trans ((congrFun (g8 106 (by decide)) 22).trans ((congrFun (g7 106 (by decide)) 22).trans ((congrFun (g6 106 (by decide)) 22).trans ((congrFun (g5 106 (by decide)) 22).trans (((congrFun (congrFun e4 106) 22).trans (wr_ne (Or.inr (by decide)))).trans (((congrFun (congrFun e3 106) 22).trans (wr_ne (Or.inr (by decide)))).trans ((congrFun (congrFun e2 106) 22).trans (wr_ne (Or.inr (by decide))))))))))))))).trans ((congrFun (congrFun e1 106) 22).trans wr_same)), ((((congrFun (congrFun e13 106) 23).trans (wr_ne (Or.inr (by decide)))).trans (((congrFun (congrFun e12 106) 23).trans (wr_ne (Or.inr (by decide)))).trans (((congrFun (congrFun e11 106) 23).trans (wr_ne (Or.inr (by decide)))).trans (((congrFun (congrFun e10 106) 23).trans (wr_ne (Or.inr (by decide)))).trans (((congrFun (congrFun e9 106) 23).trans (wr_ne (Or.inr (by decide)))).trans ((congrFun (g8 106 (by decide)) 23).trans ((congrFun (g7 106 (by decide)) 23).trans ((congrFun (g6 106 (by decide)) 23).trans ((congrFun (g5 106 (by decide)) 23).trans (((congrFun (congrFun e4 106) 23).trans (wr_ne (Or.inr (by decide)))).trans ((congrFun (congrFun e3 106) 23).trans (wr_ne (Or.inr (by decide)))))))))))))).trans ((congrFun (congrFun e2 106) 23).trans wr_same)), ((((congrFun (congrFun e13 106) 24).trans (wr_ne (Or.inr (by decide)))).trans (((congrFun (congrFun e12 106) 24).trans (wr_ne (Or.inr (by decide)))).trans (((congrFun (congrFun e11 106) 24).trans (wr_ne (Or.inr (by decide)))).trans (((congrFun (congrFun e10 106) 24).trans (wr_ne (Or.inr (by decide)))).trans (((congrFun (congrFun e9 106) 24).trans (wr_ne (Or.inr (by decide)))).trans ((congrFun (g8 106 (by decide)) 24).trans ((congrFun (g7 106 (by decide)) 24).trans ((congrFun (g6 106 (by decide)) 24).trans ((congrFun (g5 106 (by decide)) 24).trans ((congrFun (congrFun e4 106) 24).trans (wr_ne (Or.inr (by decide))))))))))))).trans ((congrFun (congrFun e3 106) 24).trans wr_same)), ((((congrFun (congrFun e13 106) 25).trans (wr_ne (Or.inr (by decide)))).trans (((congrFun (congrFun e12 106) 25).trans (wr_ne (Or.inr (by decide)))).trans (((congrFun (congrFun e11 106) 25).trans (wr_ne (Or.inr (by decide)))).trans (((congrFun (congrFun e10 106) 25).trans (wr_ne (Or.inr (by decide)))).trans (((congrFun (congrFun e9 106) 25).trans (wr_ne (Or.inr (by decide)))).trans ((congrFun (g8 106 (by decide)) 25).trans ((congrFun (g7 106 (by decide)) 25).trans ((congrFun (g6 106 (by decide)) 25).trans (congrFun (g5 106 (by decide)) 25))))))))).trans ((congrFun (congrFun e4 106) 25).trans wr_same)), fun j hj => (congrFun (((congrFun e13 113).trans (wr_row (by decide))).trans (((congrFun e12 113).trans (wr_row (by decide))).trans (((congrFun e11 113).trans (wr_row (by decide))).trans (((congrFun e10 113).trans (wr_row (by decide))).trans (((congrFun e9 113).trans (wr_row (by decide))).trans ((g8 113 (by decide)).trans ((g7 113 (by decide)).trans (g6 113 (by decide))))))))) (3 * j)).trans ((v5 (3 * j) (by omega)).trans ((congrFun (((congrFun e4 109).trans (wr_row (by decide))).trans (((congrFun e3 109).trans (wr_row (by decide))).trans (((congrFun e2 109).trans (wr_row (by decide))).trans ((congrFun e1 109).trans (wr_row (by decide)))))) (0 + (3 * j))).trans (by rw [Nat.zero_add]; exact mc_.sm j hj))), fun j hj => (congrFun (((congrFun e13 113).trans (wr_row (by decide))).trans (((congrFun e12 113).trans (wr_row (by decide))).trans (((congrFun e11 113).trans (wr_row (by decide))).trans (((congrFun e10 113).trans (wr_row (by decide))).trans (((congrFun e9 113).trans (wr_row (by decide))).trans ((g8 113 (by decide)).trans ((g7 113 (by decide)).trans (g6 113 (by decide))))))))) (3 * j + 1)).trans ((v5 (3 * j + 1) (by omega)).trans ((congrFun (((congrFun e4 109).trans (wr_row (by decide))).trans (((congrFun e3 109).trans (wr_row (by decide))).trans (((congrFun e2 109).trans (wr_row (by decide))).trans ((congrFun e1 109).trans (wr_row (by decide)))))) (0 + (3 * j + 1))).trans (by rw [Nat.zero_add]; exact mc_.ss j hj))), fun j hj => (congrFun (((congrFun e13 113).trans (wr_row (by decide))).trans (((congrFun e12 113).trans (wr_row (by decide))).trans (((congrFun e11 113).trans (wr_row (by decide))).trans (((congrFun e10 113).trans (wr_row (by decide))).trans (((congrFun e9 113).trans (wr_row (by decide))).trans ((g8 113 (by decide)).trans ((g7 113 (by decide)).trans (g6 113 (by decide))))))))) (3 * j + 2)).trans ((v5 (3 * j + 2) (by omega)).trans ((congrFun (((congrFun e4 109).trans (wr_row (by decide))).trans (((congrFun e3 109).trans (wr_row (by decide))).trans (((congrFun e2 109).trans (wr_row (by decide))).trans ((congrFun e1 109).trans (wr_row (by decide)))))) (0 + (3 * j + 2))).trans (by rw [Nat.zero_add]; exact mc_.sw j hj))), fun j hj => (congrFun (((congrFun e13 114).trans (wr_row (by decide))).trans (((congrFun e12 114).trans (wr_row (by decide))).trans (((congrFun e11 114).trans (wr_row (by decide))).trans (((congrFun e10 114).trans (wr_row (by decide))).trans (((congrFun e9 114).trans (wr_row (by decide))).trans ((g8 114 (by decide)).trans (g7 114 (by decide)))))))) (3 * j)).trans ((v6 (3 * j) (by omega)).trans ((congrFun ((g5 110 (by decide)).trans (((congrFun e4 110).trans (wr_row (by decide))).trans (((congrFun e3 110).trans (wr_row (by decide))).trans (((congrFun e2 110).trans (wr_row (by decide))).trans ((congrFun e1 110).trans (wr_row (by decide))))))) (0 + (3 * j))).trans (by rw [Nat.zero_add]; exact mc_.r1 j hj))), fun j hj => (congrFun (((congrFun e13 114).trans (wr_row (by decide))).trans (((congrFun e12 114).trans (wr_row (by decide))).trans (((congrFun e11 114).trans (wr_row (by decide))).trans (((congrFun e10 114).trans (wr_row (by decide))).trans (((congrFun e9 114).trans (wr_row (by decide))).trans ((g8 114 (by decide)).trans (g7 114 (by decide)))))))) (3 * j + 1)).trans ((v6 (3 * j + 1) (by omega)).trans ((congrFun ((g5 110 (by decide)).trans (((congrFun e4 110).trans (wr_row (by decide))).trans (((congrFun e3 110).trans (wr_row (by decide))).trans (((congrFun e2 110).trans (wr_row (by decide))).trans ((congrFun e1 110).trans (wr_row (by decide))))))) (0 + (3 * j + 1))).trans (by rw [Nat.zero_add]; exact mc_.r2 j hj))), fun j hj => (congrFun (((congrFun e13 114).trans (wr_row (by decide))).trans (((congrFun e12 114).trans (wr_row (by decide))).trans (((congrFun e11 114).trans (wr_row (by decide))).trans (((congrFun e10 114).trans (wr_row (by decide))).trans (((congrFun e9 114).trans (wr_row (by decide))).trans ((g8 114 (by decide)).trans (g7 114 (by decide)))))))) (3 * j + 2)).trans ((v6 (3 * j + 2) (by omega)).trans ((congrFun ((g5 110 (by decide)).trans (((congrFun e4 110).trans (wr_row (by decide))).trans (((congrFun e3 110).trans (wr_row (by decide))).trans (((congrFun e2 110).trans (wr_row (by decide))).trans ((congrFun e1 110).trans (wr_row (by decide))))))) (0 + (3 * j + 2))).trans (by rw [Nat.zero_add]; exact mc_.r3 j hj))), fun j hj => (congrFun (((congrFun e13 115).trans (wr_row (by decide))).trans (((congrFun e12 115).trans (wr_row (by decide))).trans (((congrFun e11 115).trans (wr_row (by decide))).trans (((congrFun e10 115).trans (wr_row (by decide))).trans (((congrFun e9 115).trans (wr_row (by decide))).trans (g8 115 (by decide))))))) (2 * j)).trans ((v7 (2 * j) (by omega)).trans ((congrFun ((g6 111 (by decide)).trans ((g5 111 (by decide)).trans (((congrFun e4 111).trans (wr_row (by decide))).trans (((congrFun e3 111).trans (wr_row (by decide))).trans (((congrFun e2 111).trans (wr_row (by decide))).trans ((congrFun e1 111).trans (wr_row (by decide)))))))) (0 + (2 * j))).trans (by rw [Nat.zero_add]; exact mc_.bm j hj))), fun j hj => (congrFun (((congrFun e13 115).trans (wr_row (by decide))).trans (((congrFun e12 115).trans (wr_row (by decide))).trans (((congrFun e11 115).trans (wr_row (by decide))).trans (((congrFun e10 115).trans (wr_row (by decide))).trans (((congrFun e9 115).trans (wr_row (by decide))).trans (g8 115 (by decide))))))) (2 * j + 1)).trans ((v7 (2 * j + 1) (by omega)).trans ((congrFun ((g6 111 (by decide)).trans ((g5 111 (by decide)).trans (((congrFun e4 111).trans (wr_row (by decide))).trans (((congrFun e3 111).trans (wr_row (by decide))).trans (((congrFun e2 111).trans (wr_row (by decide))).trans ((congrFun e1 111).trans (wr_row (by decide)))))))) (0 + (2 * j + 1))).trans (by rw [Nat.zero_add]; exact mc_.bs j hj))), fun j hj => (congrFun (((congrFun e13 116).trans (wr_row (by decide))).trans (((congrFun e12 116).trans (wr_row (by decide))).trans (((congrFun e11 116).trans (wr_row (by decide))).trans (((congrFun e10 116).trans (wr_row (by decide))).trans ((congrFun e9 116).trans (wr_row (by decide))))))) (2 * j)).trans ((v8 (2 * j) (by omega)).trans ((congrFun ((g7 112 (by decide)).trans ((g6 112 (by decide)).trans ((g5 112 (by decide)).trans (((congrFun e4 112).trans (wr_row (by decide))).trans (((congrFun e3 112).trans (wr_row (by decide))).trans (((congrFun e2 112).trans (wr_row (by decide))).trans ((congrFun e1 112).trans (wr_row (by decide))))))))) (0 + (2 * j))).trans (by rw [Nat.zero_add]; exact mc_.cc j hj))), fun j hj => (congrFun (((congrFun e13 116).trans (wr_row (by decide))).trans (((congrFun e12 116).trans (wr_row (by decide))).trans (((congrFun e11 116).trans (wr_row (by decide))).trans (((congrFun e10 116).trans (wr_row (by decide))).trans ((congrFun e9 116).trans (wr_row (by decide))))))) (2 * j + 1)).trans ((v8 (2 * j + 1) (by omega)).trans ((congrFun ((g7 112 (by decide)).trans ((g6 112 (by decide)).trans ((g5 112 (by decide)).trans (((congrFun e4 112).trans (wr_row (by decide))).trans (((congrFun e3 112).trans (wr_row (by decide))).trans (((congrFun e2 112).trans (wr_row (by decide))).trans ((congrFun e1 112).trans (wr_row (by decide))))))))) (0 + (2 * j + 1))).trans (by rw [Nat.zero_add]; exact mc_.cs j hj)))⟩
  have f5 : K13 106 32 = nI 0 ∧ K13 106 47 = nI 0 ∧ K13 106 37 = nI 0 ∧ K13 106 55 = nI 0 ∧ K13 106 38 = nI 0 := ⟨((((congrFun (congrFun e13 106) 32).trans (wr_ne (Or.inr (by decide)))).trans (((congrFun (congrFun e12 106) 32).trans (wr_ne (Or.inr (by decide)))).trans (((congrFun (congrFun e11 106) 32).trans (wr_ne (Or.inr (by decide)))).trans ((congrFun (congrFun e10 106) 32).trans (wr_ne (Or.inr (by decide))))))).trans ((congrFun (congrFun e9 106) 32).trans wr_same)), ((((congrFun (congrFun e13 106) 47).trans (wr_ne (Or.inr (by decide)))).trans (((congrFun (congrFun e12 106) 47).trans (wr_ne (Or.inr (by decide)))).trans ((congrFun (congrFun e11 106) 47).trans (wr_ne (Or.inr (by decide)))))).trans ((congrFun (congrFun e10 106) 47).trans wr_same)), ((((congrFun (congrFun e13 106) 37).trans (wr_ne (Or.inr (by decide)))).trans ((congrFun (congrFun e12 106) 37).trans (wr_ne (Or.inr (by decide))))).trans ((congrFun (congrFun e11 106) 37).trans wr_same)), (((congrFun (congrFun e13 106) 55).trans (wr_ne (Or.inr (by decide)))).trans ((congrFun (congrFun e12 106) 55).trans wr_same)), ((congrFun (congrFun e13 106) 38).trans wr_same)⟩
  have k0 : ∀ o, o ≠ 106 → (o < 113 ∨ 116 < o) → K13 o = I o := fun o p1 p2 => (((congrFun e13 o).trans (wr_row (by omega))).trans (((congrFun e12 o).trans (wr_row (by omega))).trans (((congrFun e11 o).trans (wr_row (by omega))).trans (((congrFun e10 o).trans (wr_row (by omega))).trans (((congrFun e9 o).trans (wr_row (by omega))).trans ((g8 o (by omega)).trans ((g7 o (by omega)).trans ((g6 o (by omega)).trans ((g5 o (by omega)).trans (((congrFun e4 o).trans (wr_row (by omega))).trans (((congrFun e3 o).trans (wr_row (by omega))).trans (((congrFun e2 o).trans (wr_row (by omega))).trans ((congrFun e1 o).trans (wr_row (by omega)))))))))))))))
  have k1 : ∀ j, j < 22 → K13 106 j = I 106 j := fun j p1 => (((congrFun (congrFun e13 106) j).trans (wr_ne (Or.inr (by omega)))).trans (((congrFun (congrFun e12 106) j).trans (wr_ne (Or.inr (by omega)))).trans (((congrFun (congrFun e11 106) j).trans (wr_ne (Or.inr (by omega)))).trans (((congrFun (congrFun e10 106) j).trans (wr_ne (Or.inr (by omega)))).trans (((congrFun (congrFun e9 106) j).trans (wr_ne (Or.inr (by omega)))).trans ((congrFun (g8 106 (by decide)) j).trans ((congrFun (g7 106 (by decide)) j).trans ((congrFun (g6 106 (by decide)) j).trans ((congrFun (g5 106 (by decide)) j).trans (((congrFun (congrFun e4 106) j).trans (wr_ne (Or.inr (by omega)))).trans (((congrFun (congrFun e3 106) j).trans (wr_ne (Or.inr (by omega)))).trans (((congrFun (congrFun e2 106) j).trans (wr_ne (Or.inr (by omega)))).trans ((congrFun (congrFun e1 106) j).trans (wr_ne (Or.inr (by omega))))))))))))))))
  refine EV.o r_X11_sets_113 (icN (0) (v := 0)) ?_
  refine EV.l (lv' := [(0, _), (1, _)]) r_X11_sets_114 rfl ?_
  have L115 : ∀ y_ : Nat × (Nat → Nat → Int32), (fun y => (y.1 ≤ 9 ∧ (∀ o, o ≠ 129 → y.2 o = K13 o) ∧ ∀ j, j < y.1 → y.2 129 j = zI (-1)) → EV none M_X11_sets d' 115 [(0, .ref 106), (1, .int (nI y.1))] [] (hp y.2 J) (QU J (fun I' => MC κ I' ∧ MR 125 κ (beg κ w) I' ∧ (I' 106 32 = nI 0 ∧ I' 106 47 = nI 0 ∧ I' 106 37 = nI 0 ∧ I' 106 55 = nI 0 ∧ I' 106 38 = nI 0) ∧ (∀ j, j < 9 → I' 129 j = zI (-1)) ∧ (∀ o, o ≠ 106 → (o < 113 ∨ 116 < o) → o ≠ 125 → o ≠ 129 → I' o = I o) ∧ ∀ j, j < 22 → I' 106 j = I 106 j))) y_ := by
    refine ev_loop (fun y => 9 - y.1) ?_
    intro ⟨i1, M1⟩ ih115 hx115
    try dsimp only at ih115
    try dsimp only at hx115
    try dsimp only
    refine EV.l (lv' := [(0, _), (1, _)]) r_X11_sets_115 rfl ?_
    refine EV.o r_X11_sets_116 (bpN (9) 9) ?_
    refine EV.n2_ge r_X11_sets_118 (fun h118 => ?_) (fun h118 => ?_)
    · -- 118 t
      have m1 : ∀ j, j < 9 → M1 129 j = zI (-1) := fun j hj => hx115.2.2 j (by omega)
      refine EV.o r_X11_sets_134 (icN (0) (v := 0)) ?_
      refine EV.l (lv' := [(0, _), (1, _)]) r_X11_sets_135 rfl ?_
      have L136 : ∀ y_ : Nat × (Nat → Nat → Int32), (fun y => (y.1 ≤ 31 ∧ (∀ o, o ≠ 125 → y.2 o = M1 o) ∧ ∀ j, j < y.1 → y.2 125 j = nI 0) → EV none M_X11_sets d' 136 [(0, .ref 106), (1, .int (nI y.1))] [] (hp y.2 J) (QU J (fun I' => MC κ I' ∧ MR 125 κ (beg κ w) I' ∧ (I' 106 32 = nI 0 ∧ I' 106 47 = nI 0 ∧ I' 106 37 = nI 0 ∧ I' 106 55 = nI 0 ∧ I' 106 38 = nI 0) ∧ (∀ j, j < 9 → I' 129 j = zI (-1)) ∧ (∀ o, o ≠ 106 → (o < 113 ∨ 116 < o) → o ≠ 125 → o ≠ 129 → I' o = I o) ∧ ∀ j, j < 22 → I' 106 j = I 106 j))) y_ := by
        refine ev_loop (fun y => 31 - y.1) ?_
        intro ⟨i2, M2⟩ ih136 hx136
        try dsimp only at ih136
        try dsimp only at hx136
        try dsimp only
        refine EV.l (lv' := [(0, _), (1, _)]) r_X11_sets_136 rfl ?_
        refine EV.o r_X11_sets_137 (bpN (31) 31) ?_
        refine EV.n2_ge r_X11_sets_139 (fun h139 => ?_) (fun h139 => ?_)
        · -- 139 t
          have m2 : ∀ j, j < 31 → M2 125 j = nI (nowF κ 0 0 0 j) := fun j hj => by rw [hx136.2.2 j (by omega)]; unfold nowF; rw [if_neg (by omega), if_neg (by omega), if_neg (by omega)]
          have y2 : ∀ o, o ≠ 125 → o ≠ 129 → M2 o = K13 o := fun o p1 p2 => (hx136.2.1 o p1).trans (hx115.2.1 o p2)
          refine EV.o r_X11_sets_155 (icN (0) (v := 0)) ?_
          refine EV.l (lv' := [(0, _), (1, _)]) r_X11_sets_156 rfl ?_
          have L157 : ∀ y_ : Nat × (Nat → Nat → Int32), (fun y => (y.1 ≤ κ.ns ∧ (∀ o, o ≠ 125 → y.2 o = M2 o) ∧ ∀ j, j < 31 → y.2 125 j = nI (nowF κ y.1 0 0 j)) → EV none M_X11_sets d' 157 [(0, .ref 106), (1, .int (nI y.1))] [] (hp y.2 J) (QU J (fun I' => MC κ I' ∧ MR 125 κ (beg κ w) I' ∧ (I' 106 32 = nI 0 ∧ I' 106 47 = nI 0 ∧ I' 106 37 = nI 0 ∧ I' 106 55 = nI 0 ∧ I' 106 38 = nI 0) ∧ (∀ j, j < 9 → I' 129 j = zI (-1)) ∧ (∀ o, o ≠ 106 → (o < 113 ∨ 116 < o) → o ≠ 125 → o ≠ 129 → I' o = I o) ∧ ∀ j, j < 22 → I' 106 j = I 106 j))) y_ := by
            refine ev_loop (fun y => κ.ns - y.1) ?_
            intro ⟨i3, M3⟩ ih157 hx157
            try dsimp only at ih157
            try dsimp only at hx157
            try dsimp only
            refine EV.l (lv' := [(0, _), (1, _)]) r_X11_sets_157 rfl ?_
            refine EV.l (lv' := [(0, _), (1, _)]) r_X11_sets_158 rfl ?_
            refine EV.getV r_X11_sets_159 la_106 ((congrFun ((hx157.2.1 106 (by decide)).trans (y2 106 (by decide) (by decide))) 22).trans mcK.ns) ?_
            refine EV.n2_ge r_X11_sets_162 (fun h162 => ?_) (fun h162 => ?_)
            · -- 162 t
              have ei3 : i3 = κ.ns := by omega
              subst ei3
              refine EV.o r_X11_sets_187 (icN (0) (v := 0)) ?_
              refine EV.l (lv' := [(0, _), (1, _)]) r_X11_sets_188 rfl ?_
              have L189 : ∀ y_ : Nat × (Nat → Nat → Int32), (fun y => (y.1 ≤ κ.nb ∧ (∀ o, o ≠ 125 → y.2 o = M3 o) ∧ ∀ j, j < 31 → y.2 125 j = nI (nowF κ κ.ns y.1 0 j)) → EV none M_X11_sets d' 189 [(0, .ref 106), (1, .int (nI y.1))] [] (hp y.2 J) (QU J (fun I' => MC κ I' ∧ MR 125 κ (beg κ w) I' ∧ (I' 106 32 = nI 0 ∧ I' 106 47 = nI 0 ∧ I' 106 37 = nI 0 ∧ I' 106 55 = nI 0 ∧ I' 106 38 = nI 0) ∧ (∀ j, j < 9 → I' 129 j = zI (-1)) ∧ (∀ o, o ≠ 106 → (o < 113 ∨ 116 < o) → o ≠ 125 → o ≠ 129 → I' o = I o) ∧ ∀ j, j < 22 → I' 106 j = I 106 j))) y_ := by
                refine ev_loop (fun y => κ.nb - y.1) ?_
                intro ⟨i4, M4⟩ ih189 hx189
                try dsimp only at ih189
                try dsimp only at hx189
                try dsimp only
                refine EV.l (lv' := [(0, _), (1, _)]) r_X11_sets_189 rfl ?_
                refine EV.l (lv' := [(0, _), (1, _)]) r_X11_sets_190 rfl ?_
                refine EV.getV r_X11_sets_191 la_106 ((congrFun ((hx189.2.1 106 (by decide)).trans ((hx157.2.1 106 (by decide)).trans (y2 106 (by decide) (by decide)))) 24).trans mcK.nb) ?_
                refine EV.n2_ge r_X11_sets_194 (fun h194 => ?_) (fun h194 => ?_)
                · -- 194 t
                  have ei4 : i4 = κ.nb := by omega
                  subst ei4
                  refine EV.o r_X11_sets_220 (icN (0) (v := 0)) ?_
                  refine EV.l (lv' := [(0, _), (1, _)]) r_X11_sets_221 rfl ?_
                  have L222 : ∀ y_ : Nat × (Nat → Nat → Int32), (fun y => (y.1 ≤ κ.nc ∧ (∀ o, o ≠ 125 → y.2 o = M4 o) ∧ ∀ j, j < 31 → y.2 125 j = nI (nowF κ κ.ns κ.nb y.1 j)) → EV none M_X11_sets d' 222 [(0, .ref 106), (1, .int (nI y.1))] [] (hp y.2 J) (QU J (fun I' => MC κ I' ∧ MR 125 κ (beg κ w) I' ∧ (I' 106 32 = nI 0 ∧ I' 106 47 = nI 0 ∧ I' 106 37 = nI 0 ∧ I' 106 55 = nI 0 ∧ I' 106 38 = nI 0) ∧ (∀ j, j < 9 → I' 129 j = zI (-1)) ∧ (∀ o, o ≠ 106 → (o < 113 ∨ 116 < o) → o ≠ 125 → o ≠ 129 → I' o = I o) ∧ ∀ j, j < 22 → I' 106 j = I 106 j))) y_ := by
                    refine ev_loop (fun y => κ.nc - y.1) ?_
                    intro ⟨i5, M5⟩ ih222 hx222
                    try dsimp only at ih222
                    try dsimp only at hx222
                    try dsimp only
                    refine EV.l (lv' := [(0, _), (1, _)]) r_X11_sets_222 rfl ?_
                    refine EV.l (lv' := [(0, _), (1, _)]) r_X11_sets_223 rfl ?_
                    refine EV.getV r_X11_sets_224 la_106 ((congrFun ((hx222.2.1 106 (by decide)).trans ((hx189.2.1 106 (by decide)).trans ((hx157.2.1 106 (by decide)).trans (y2 106 (by decide) (by decide))))) 25).trans mcK.nc) ?_
                    refine EV.n2_ge r_X11_sets_227 (fun h227 => ?_) (fun h227 => ?_)
                    · -- 227 t
                      have ei5 : i5 = κ.nc := by omega
                      subst ei5
                      have y5 : ∀ o, o ≠ 125 → o ≠ 129 → M5 o = K13 o := fun o p1 p2 => (hx222.2.1 o p1).trans ((hx189.2.1 o p1).trans ((hx157.2.1 o p1).trans (y2 o p1 p2)))
                      have y6 : M5 129 = M1 129 := (hx222.2.1 129 (by decide)).trans ((hx189.2.1 129 (by decide)).trans ((hx157.2.1 129 (by decide)).trans (hx136.2.1 129 (by decide))))
                      exact EV.ru r_X11_sets_253 (⟨mcK.fr (y5 106 (by decide) (by decide)) (fun x p1 p2 => y5 x (by omega) (by omega)), nowF_mr cb hx222.2.2, by rw [y5 106 (by decide) (by decide)]; exact f5, fun j hj => by rw [y6]; exact m1 j hj, fun o p1 p2 p3 p4 => (y5 o p3 p4).trans (k0 o p1 p2), fun j hj => (congrFun (y5 106 (by decide) (by decide)) j).trans (k1 j hj)⟩)
                    · -- 227 f
                      refine EV.l (lv' := [(0, _), (1, _)]) r_X11_sets_230 rfl ?_
                      refine EV.gR r_X11_sets_231 la_106 ?_
                      refine EV.o r_X11_sets_234 (bpN (26) 26) ?_
                      refine EV.l (lv' := [(0, _), (1, _)]) r_X11_sets_236 rfl ?_
                      refine EV.o r_X11_sets_237 iaddN ?_
                      refine EV.l (lv' := [(0, _), (1, _)]) r_X11_sets_238 rfl ?_
                      refine EV.gR r_X11_sets_239 la_106 ?_
                      refine EV.o r_X11_sets_242 (icN (2) (v := 2)) ?_
                      refine EV.l (lv' := [(0, _), (1, _)]) r_X11_sets_243 rfl ?_
                      refine EV.o r_X11_sets_244 imulN ?_
                      refine EV.iaN r_X11_sets_245 la_116 ((congrFun ((hx222.2.1 116 (by decide)).trans ((hx189.2.1 116 (by decide)).trans ((hx157.2.1 116 (by decide)).trans (y2 116 (by decide) (by decide))))) _).trans (mcK.cc i5 (by omega))) ?_
                      refine EV.iaSn r_X11_sets_246 la_125 (fun N5 n5 => ?_)
                      refine EV.l (lv' := [(0, _), (1, _)]) r_X11_sets_247 rfl ?_
                      rw [inc_nI]
                      refine EV.g r_X11_sets_250 ?_
                      refine EV.sub ?_ rfl ?_ (ih222 (i5 + 1, N5) ?_ ?_)
                      · (try dsimp only) <;> (rfl)
                      · (try dsimp only) <;> (rfl)
                      · (try dsimp only) <;> (omega)
                      · (try dsimp only) <;> (exact ⟨by omega, fun o ho => by rw [n5, wr_row ho]; exact hx222.2.1 o ho, by rw [n5]; exact nowF_c (by omega) (by omega) (by omega) hx222.2.2⟩)
                  have h0 := L222 (0, M4)
                  try dsimp only at h0
                  refine EV.sub ?_ rfl ?_ (h0 ?_)
                  · (try dsimp only) <;> (rfl)
                  · (try dsimp only) <;> (rfl)
                  · (try dsimp only) <;> (exact ⟨Nat.zero_le _, fun _ _ => rfl, hx189.2.2⟩)
                · -- 194 f
                  refine EV.l (lv' := [(0, _), (1, _)]) r_X11_sets_197 rfl ?_
                  refine EV.gR r_X11_sets_198 la_106 ?_
                  refine EV.o r_X11_sets_201 (bpN (18) 18) ?_
                  refine EV.l (lv' := [(0, _), (1, _)]) r_X11_sets_203 rfl ?_
                  refine EV.o r_X11_sets_204 iaddN ?_
                  refine EV.l (lv' := [(0, _), (1, _)]) r_X11_sets_205 rfl ?_
                  refine EV.gR r_X11_sets_206 la_106 ?_
                  refine EV.o r_X11_sets_209 (icN (2) (v := 2)) ?_
                  refine EV.l (lv' := [(0, _), (1, _)]) r_X11_sets_210 rfl ?_
                  refine EV.o r_X11_sets_211 imulN ?_
                  refine EV.iaN r_X11_sets_212 la_115 ((congrFun ((hx189.2.1 115 (by decide)).trans ((hx157.2.1 115 (by decide)).trans (y2 115 (by decide) (by decide)))) _).trans (mcK.bm i4 (by omega))) ?_
                  refine EV.iaSn r_X11_sets_213 la_125 (fun N4 n4 => ?_)
                  refine EV.l (lv' := [(0, _), (1, _)]) r_X11_sets_214 rfl ?_
                  rw [inc_nI]
                  refine EV.g r_X11_sets_217 ?_
                  refine EV.sub ?_ rfl ?_ (ih189 (i4 + 1, N4) ?_ ?_)
                  · (try dsimp only) <;> (rfl)
                  · (try dsimp only) <;> (rfl)
                  · (try dsimp only) <;> (omega)
                  · (try dsimp only) <;> (exact ⟨by omega, fun o ho => by rw [n4, wr_row ho]; exact hx189.2.1 o ho, by rw [n4]; exact nowF_b (by omega) (by omega) hx189.2.2⟩)
              have h0 := L189 (0, M3)
              try dsimp only at h0
              refine EV.sub ?_ rfl ?_ (h0 ?_)
              · (try dsimp only) <;> (rfl)
              · (try dsimp only) <;> (rfl)
              · (try dsimp only) <;> (exact ⟨Nat.zero_le _, fun _ _ => rfl, hx157.2.2⟩)
            · -- 162 f
              refine EV.l (lv' := [(0, _), (1, _)]) r_X11_sets_165 rfl ?_
              refine EV.gR r_X11_sets_166 la_106 ?_
              refine EV.o r_X11_sets_169 (icN (0) (v := 0)) ?_
              refine EV.l (lv' := [(0, _), (1, _)]) r_X11_sets_170 rfl ?_
              refine EV.o r_X11_sets_171 iaddN ?_
              refine EV.l (lv' := [(0, _), (1, _)]) r_X11_sets_172 rfl ?_
              refine EV.gR r_X11_sets_173 la_106 ?_
              refine EV.o r_X11_sets_176 (icN (3) (v := 3)) ?_
              refine EV.l (lv' := [(0, _), (1, _)]) r_X11_sets_177 rfl ?_
              refine EV.o r_X11_sets_178 imulN ?_
              refine EV.iaN r_X11_sets_179 la_113 ((congrFun ((hx157.2.1 113 (by decide)).trans (y2 113 (by decide) (by decide))) _).trans (mcK.sm i3 (by omega))) ?_
              refine EV.iaSn r_X11_sets_180 la_125 (fun N3 n3 => ?_)
              refine EV.l (lv' := [(0, _), (1, _)]) r_X11_sets_181 rfl ?_
              rw [inc_nI]
              refine EV.g r_X11_sets_184 ?_
              refine EV.sub ?_ rfl ?_ (ih157 (i3 + 1, N3) ?_ ?_)
              · (try dsimp only) <;> (rfl)
              · (try dsimp only) <;> (rfl)
              · (try dsimp only) <;> (omega)
              · (try dsimp only) <;> (exact ⟨by omega, fun o ho => by rw [n3, wr_row ho]; exact hx157.2.1 o ho, by rw [n3]; exact nowF_a (by omega) hx157.2.2⟩)
          have h0 := L157 (0, M2)
          try dsimp only at h0
          refine EV.sub ?_ rfl ?_ (h0 ?_)
          · (try dsimp only) <;> (rfl)
          · (try dsimp only) <;> (rfl)
          · (try dsimp only) <;> (exact ⟨Nat.zero_le _, fun _ _ => rfl, m2⟩)
        · -- 139 f
          refine EV.l (lv' := [(0, _), (1, _)]) r_X11_sets_142 rfl ?_
          refine EV.gR r_X11_sets_143 la_106 ?_
          refine EV.l (lv' := [(0, _), (1, _)]) r_X11_sets_146 rfl ?_
          refine EV.o r_X11_sets_147 (icN (0) (v := 0)) ?_
          refine EV.iaSn r_X11_sets_148 la_125 (fun N2 n2 => ?_)
          refine EV.l (lv' := [(0, _), (1, _)]) r_X11_sets_149 rfl ?_
          rw [inc_nI]
          refine EV.g r_X11_sets_152 ?_
          refine EV.sub ?_ rfl ?_ (ih136 (i2 + 1, N2) ?_ ?_)
          · (try dsimp only) <;> (rfl)
          · (try dsimp only) <;> (rfl)
          · (try dsimp only) <;> (omega)
          · (try dsimp only) <;> (exact ⟨by omega, fun o ho => by rw [n2, wr_row ho]; exact hx136.2.1 o ho, by rw [n2]; exact wr_m1 hx136.2.2⟩)
      have h0 := L136 (0, M1)
      try dsimp only at h0
      refine EV.sub ?_ rfl ?_ (h0 ?_)
      · (try dsimp only) <;> (rfl)
      · (try dsimp only) <;> (rfl)
      · (try dsimp only) <;> (exact ⟨by decide, fun _ _ => rfl, fun j hj => absurd hj (Nat.not_lt_zero j)⟩)
    · -- 118 f
      refine EV.l (lv' := [(0, _), (1, _)]) r_X11_sets_121 rfl ?_
      refine EV.gR r_X11_sets_122 la_106 ?_
      refine EV.l (lv' := [(0, _), (1, _)]) r_X11_sets_125 rfl ?_
      refine EV.o r_X11_sets_126 (icZ (-1)) ?_
      refine EV.iaSn r_X11_sets_127 la_129 (fun N1 n1 => ?_)
      refine EV.l (lv' := [(0, _), (1, _)]) r_X11_sets_128 rfl ?_
      rw [inc_nI]
      refine EV.g r_X11_sets_131 ?_
      refine EV.sub ?_ rfl ?_ (ih115 (i1 + 1, N1) ?_ ?_)
      · (try dsimp only) <;> (rfl)
      · (try dsimp only) <;> (rfl)
      · (try dsimp only) <;> (omega)
      · (try dsimp only) <;> (exact ⟨by omega, fun o ho => by rw [n1, wr_row ho]; exact hx115.2.1 o ho, by rw [n1]; exact wr_m1 hx115.2.2⟩)
  have h0 := L115 (0, K13)
  try dsimp only at h0
  refine EV.sub ?_ rfl ?_ (h0 ?_)
  · (try dsimp only) <;> (rfl)
  · (try dsimp only) <;> (rfl)
  · (try dsimp only) <;> (exact ⟨by decide, fun _ _ => rfl, fun j hj => absurd hj (Nat.not_lt_zero j)⟩)
