/-! The model's HIDE. -/
def rst (x : Nat) : Nat → Nat
  | 0 => x
  | i + 1 => rst x i / 10
theorem rst_eq (x : Nat) : ∀ i, rst x i = x / 10 ^ i
  | 0 => by rw [Nat.pow_zero, Nat.div_one]; rfl
  | i + 1 => by
    show rst x i / 10 = _
    rw [rst_eq x i, Nat.div_div_eq_div_mul, Nat.pow_succ]
theorem dig_r {x i : Nat} : rst x i % 10 = dig x i := by rw [rst_eq]; rfl
theorem dig_lt (x i : Nat) : dig x i < 10 := Nat.mod_lt _ (by decide)
theorem rst_le (x : Nat) : ∀ i, rst x i ≤ x
  | 0 => Nat.le_refl _
  | i + 1 => Nat.le_trans (Nat.div_le_self _ _) (rst_le x i)
theorem hs1_le (x : Nat) : ∀ i, hs1 x i ≤ 9 * i
  | 0 => Nat.le_refl _
  | i + 1 => by
    have := hs1_le x i
    have h2 := dig_lt x i
    show hs1 x i + dig x i ≤ _
    omega
theorem hb1_lt {κ : CT} {l : LW} {η : HS} {x : Nat} : ∀ i, hb1 (ovr κ l η) κ.nb x i < 2 ^ κ.ns
  | 0 => Nat.two_pow_pos _
  | i + 1 => or_ltn (hb1_lt i) ovr_lt
section HI
variable {η : HS} {nb x i : Nat}
theorem hi_f (h : hi1 (mxB η) nb x i = false) : hi1 (mxB η) nb x (i + 1) = false := by
  show (hi1 (mxB η) nb x i && _) = _
  rw [h]; rfl
theorem hi_0 (h : hi1 (mxB η) nb x i = true) (h2 : dig x i = 0) : hi1 (mxB η) nb x (i + 1) = true := by
  show (hi1 (mxB η) nb x i && (decide (dig x i = 0) || _)) = _
  rw [h, decide_eq_true h2]; rfl
theorem hi_9 (h : hi1 (mxB η) nb x i = true) (h2 : η.mi ≤ η.be (nb - 1 - i)) : hi1 (mxB η) nb x (i + 1) = true := by
  show (hi1 (mxB η) nb x i && (_ || decide (mxB η (nb - 1 - i) = 9))) = _
  rw [h, decide_eq_true (show mxB η (nb - 1 - i) = 9 from if_neg (by omega)), Bool.or_true]; rfl
theorem hi_n (h : ¬ dig x i = 0) (h2 : η.be (nb - 1 - i) < η.mi) : hi1 (mxB η) nb x (i + 1) = false := by
  have e : mxB η (nb - 1 - i) = 0 := if_pos h2
  show (hi1 (mxB η) nb x i && (decide (dig x i = 0) || decide (mxB η (nb - 1 - i) = 9))) = _
  rw [decide_eq_false h, e, Bool.false_or, show decide ((0 : Nat) = 9) = false from rfl, Bool.and_false]
end HI
def okN (κ : CT) (l : LW) (η : HS) (wt x : Nat) (st : PP) : Bool := hi1 (mxB η) κ.nb x κ.nb && decide (andc wt (hb1 (ovr κ l η) κ.nb x κ.nb) = 0) && !(pr st (hs1 x κ.nb))
section UP
variable {κ : CT} {l : LW} {η : HS} {wt x : Nat} {st : PP}
theorem upN_t (h1 : hi1 (mxB η) κ.nb x κ.nb = true) (h2 : andc wt (hb1 (ovr κ l η) κ.nb x κ.nb) = 0) (h3 : pr st (hs1 x κ.nb) = false) : upN κ l η wt x st = some (hs1 x κ.nb, dg1 x κ.nb) := by
  have e : upN κ l η wt x st = some (0 + hs1 x κ.nb, 0 + 1 * dg1 x κ.nb) := if_pos ⟨h1, by rw [Nat.zero_or]; exact h2, by rw [Nat.zero_add]; exact h3⟩
  rw [e, Nat.zero_add, Nat.zero_add, Nat.one_mul]
theorem upN_f (h : hi1 (mxB η) κ.nb x κ.nb = false ∨ ¬ andc wt (hb1 (ovr κ l η) κ.nb x κ.nb) = 0 ∨ pr st (hs1 x κ.nb) = true) : upN κ l η wt x st = st := by
  refine if_neg ?_
  rintro ⟨z1, z2, z3⟩
  rw [Nat.zero_or] at z2
  rw [Nat.zero_add] at z3
  rcases h with h | h | h
  · rw [h] at z1; cases z1
  · exact h z2
  · rw [h] at z3; cases z3
theorem okN_t (h1 : hi1 (mxB η) κ.nb x κ.nb = true) (h2 : andc wt (hb1 (ovr κ l η) κ.nb x κ.nb) = 0) (h3 : pr st (hs1 x κ.nb) = false) : okN κ l η wt x st = true := by
  unfold okN
  rw [h1, decide_eq_true h2, h3]; rfl
theorem okN_f (h : hi1 (mxB η) κ.nb x κ.nb = false ∨ ¬ andc wt (hb1 (ovr κ l η) κ.nb x κ.nb) = 0 ∨ pr st (hs1 x κ.nb) = true) : okN κ l η wt x st = false := by
  unfold okN
  rcases h with h | h | h
  · rw [h]; rfl
  · rw [decide_eq_false h, Bool.and_false]; rfl
  · rw [h]; exact Bool.and_false _
theorem okN_up (h : okN κ l η wt x st = true) : upN κ l η wt x st = some (hs1 x κ.nb, dg1 x κ.nb) := by
  unfold okN at h
  rw [Bool.and_eq_true, Bool.and_eq_true] at h
  exact upN_t h.1.1 (of_decide_eq_true h.1.2) (by simpa using h.2)
theorem okN_no (h : okN κ l η wt x st = false) : upN κ l η wt x st = st := by
  refine upN_f ?_
  cases h1 : hi1 (mxB η) κ.nb x κ.nb with
  | false => exact Or.inl rfl
  | true =>
    refine Or.inr ?_
    by_cases h2 : andc wt (hb1 (ovr κ l η) κ.nb x κ.nb) = 0
    · right
      cases h3 : pr st (hs1 x κ.nb) with
      | true => rfl
      | false => rw [okN_t h1 h2 h3] at h; cases h
    · exact Or.inl h2
theorem stB_up (cb : CB κ) (h : stB st) : stB (upN κ l η wt x st) := by
  cases hk : okN κ l η wt x st with
  | true =>
    rw [okN_up hk]
    intro p e
    cases e
    have := hs1_le x κ.nb
    have := cb.nb
    show hs1 x κ.nb ≤ 100
    omega
  | false => rw [okN_no hk]; exact h
end UP
theorem ld_s {nb x i : Nat} {I : Nat → Nat → Int32} (h : ∀ k, k < i → I 131 (nb - 1 - k) = nI (dig x k)) (hi : i < nb) : ∀ k, k < i + 1 → wr I 131 (nb - 1 - i) (nI (dig x i)) 131 (nb - 1 - k) = nI (dig x k) := by
  intro k hk
  rcases Nat.lt_or_ge k i with h2 | h2
  · rw [wr_ne (Or.inr (by omega))]; exact h k h2
  · have e : k = i := by omega
    rw [e]; exact wr_same
theorem cvm_at {κ : CT} {l : LW} {η : HS} {I : Nat → Nat → Int32} (h : ∀ j, j < 10 * κ.nb → I 130 j = nI (cvd κ l η j)) {b n : Nat} (hb_ : b < κ.nb) (hn : n < 10) : I 130 (10 * b + n) = nI (ovr κ l η b n) := by
  rw [h _ (by omega)]
  unfold cvd
  rw [show (10 * b + n) / 10 = b by omega, show (10 * b + n) % 10 = n by omega]
theorem pow10_s (n : Nat) : 10 ^ n * 10 = 10 ^ (n + 1) := by rw [Nat.pow_succ]
theorem pow10_le {n : Nat} (h : n ≤ 4) : 10 ^ n ≤ 10000 := Nat.pow_le_pow_right (by decide) h
theorem dg1_le (x : Nat) : ∀ i, dg1 x i < 10 ^ i
  | 0 => Nat.pow_pos (by decide)
  | i + 1 => by
    have := dg1_le x i
    have h2 := dig_lt x i
    have h3 := pow10_s i
    show 10 * dg1 x i + dig x i < _
    omega
theorem r_X11_hide_0 : RW M_X11_hide 0 (.aload_n 0) 1 0 0 1 := ⟨rfl, rfl⟩
theorem r_X11_hide_1 : RW M_X11_hide 1 (.iconst 0) 1 0 0 2 := ⟨rfl, rfl⟩
theorem r_X11_hide_2 : RW M_X11_hide 2 (.putfield 3) 3 11 0 5 := ⟨rfl, rfl⟩
theorem r_X11_hide_5 : RW M_X11_hide 5 (.aload_n 0) 1 0 0 6 := ⟨rfl, rfl⟩
theorem r_X11_hide_6 : RW M_X11_hide 6 (.iload_n 1) 1 0 0 7 := ⟨rfl, rfl⟩
theorem r_X11_hide_7 : RW M_X11_hide 7 (.ifCond .lt 26) 3 33 0 10 := ⟨rfl, rfl⟩
theorem r_X11_hide_10 : RW M_X11_hide 10 (.iload_n 1) 1 0 0 11 := ⟨rfl, rfl⟩
theorem r_X11_hide_11 : RW M_X11_hide 11 (.iconst 1) 1 0 0 12 := ⟨rfl, rfl⟩
theorem r_X11_hide_12 : RW M_X11_hide 12 (.aload_n 0) 1 0 0 13 := ⟨rfl, rfl⟩
theorem r_X11_hide_13 : RW M_X11_hide 13 (.getfield 166) 3 11 22 16 := ⟨rfl, rfl⟩
theorem r_X11_hide_16 : RW M_X11_hide 16 (.ishl) 1 0 0 17 := ⟨rfl, rfl⟩
theorem r_X11_hide_17 : RW M_X11_hide 17 (.if_icmp .ge 16) 3 33 0 20 := ⟨rfl, rfl⟩
theorem r_X11_hide_20 : RW M_X11_hide 20 (.iload_n 2) 1 0 0 21 := ⟨rfl, rfl⟩
theorem r_X11_hide_21 : RW M_X11_hide 21 (.iconst 0) 1 0 0 22 := ⟨rfl, rfl⟩
theorem r_X11_hide_22 : RW M_X11_hide 22 (.iconst 1) 1 0 0 23 := ⟨rfl, rfl⟩
theorem r_X11_hide_23 : RW M_X11_hide 23 (.invokestatic 392) 3 170 0 26 := ⟨rfl, rfl⟩
theorem r_X11_hide_26 : RW M_X11_hide 26 (.ifCond .eq 7) 3 33 0 29 := ⟨rfl, rfl⟩
theorem r_X11_hide_29 : RW M_X11_hide 29 (.iconst 1) 1 0 0 30 := ⟨rfl, rfl⟩
theorem r_X11_hide_30 : RW M_X11_hide 30 (.goto 4) 3 34 0 33 := ⟨rfl, rfl⟩
theorem r_X11_hide_33 : RW M_X11_hide 33 (.iconst 0) 1 0 0 34 := ⟨rfl, rfl⟩
theorem r_X11_hide_34 : RW M_X11_hide 34 (.iconst 1) 1 0 0 35 := ⟨rfl, rfl⟩
theorem r_X11_hide_35 : RW M_X11_hide 35 (.iconst 1) 1 0 0 36 := ⟨rfl, rfl⟩
theorem r_X11_hide_36 : RW M_X11_hide 36 (.invokevirtual 210) 3 169 0 39 := ⟨rfl, rfl⟩
theorem r_X11_hide_39 : RW M_X11_hide 39 (.ifCond .ne 5) 3 44 0 42 := ⟨rfl, rfl⟩
theorem r_X11_hide_42 : RW M_X11_hide 42 (.iconst 0) 1 0 0 43 := ⟨rfl, rfl⟩
theorem r_X11_hide_43 : RW M_X11_hide 43 (.ireturn) 1 0 0 44 := ⟨rfl, rfl⟩
theorem r_X11_hide_44 : RW M_X11_hide 44 (.aload_n 0) 1 0 0 45 := ⟨rfl, rfl⟩
theorem r_X11_hide_45 : RW M_X11_hide 45 (.invokevirtual 322) 3 212 0 48 := ⟨rfl, rfl⟩
theorem r_X11_hide_48 : RW M_X11_hide 48 (.iconst 1) 1 0 0 49 := ⟨rfl, rfl⟩
theorem r_X11_hide_49 : RW M_X11_hide 49 (.istore_n 3) 1 0 0 50 := ⟨rfl, rfl⟩
theorem r_X11_hide_50 : RW M_X11_hide 50 (.iconst 0) 1 0 0 51 := ⟨rfl, rfl⟩
theorem r_X11_hide_51 : RW M_X11_hide 51 (.istore 4) 2 0 0 53 := ⟨rfl, rfl⟩
theorem r_X11_hide_53 : RW M_X11_hide 53 (.iload 4) 2 0 5 55 := ⟨rfl, rfl⟩
theorem r_X11_hide_55 : RW M_X11_hide 55 (.aload_n 0) 1 0 0 56 := ⟨rfl, rfl⟩
theorem r_X11_hide_56 : RW M_X11_hide 56 (.getfield 172) 3 11 24 59 := ⟨rfl, rfl⟩
theorem r_X11_hide_59 : RW M_X11_hide 59 (.if_icmp .ge 51) 3 110 0 62 := ⟨rfl, rfl⟩
theorem r_X11_hide_62 : RW M_X11_hide 62 (.iconst 0) 1 0 0 63 := ⟨rfl, rfl⟩
theorem r_X11_hide_63 : RW M_X11_hide 63 (.istore 5) 2 0 0 65 := ⟨rfl, rfl⟩
theorem r_X11_hide_65 : RW M_X11_hide 65 (.iload 5) 2 0 0 67 := ⟨rfl, rfl⟩
theorem r_X11_hide_67 : RW M_X11_hide 67 (.bipush 10) 2 0 0 69 := ⟨rfl, rfl⟩
theorem r_X11_hide_69 : RW M_X11_hide 69 (.if_icmp .ge 30) 3 99 0 72 := ⟨rfl, rfl⟩
theorem r_X11_hide_72 : RW M_X11_hide 72 (.aload_n 0) 1 0 0 73 := ⟨rfl, rfl⟩
theorem r_X11_hide_73 : RW M_X11_hide 73 (.getfield 86) 3 11 48 76 := ⟨rfl, rfl⟩
theorem r_X11_hide_76 : RW M_X11_hide 76 (.bipush 10) 2 0 0 78 := ⟨rfl, rfl⟩
theorem r_X11_hide_78 : RW M_X11_hide 78 (.iload 4) 2 0 0 80 := ⟨rfl, rfl⟩
theorem r_X11_hide_80 : RW M_X11_hide 80 (.imul) 1 0 0 81 := ⟨rfl, rfl⟩
theorem r_X11_hide_81 : RW M_X11_hide 81 (.iload 5) 2 0 0 83 := ⟨rfl, rfl⟩
theorem r_X11_hide_83 : RW M_X11_hide 83 (.iadd) 1 0 0 84 := ⟨rfl, rfl⟩
theorem r_X11_hide_84 : RW M_X11_hide 84 (.aload_n 0) 1 0 0 85 := ⟨rfl, rfl⟩
theorem r_X11_hide_85 : RW M_X11_hide 85 (.iload 4) 2 0 0 87 := ⟨rfl, rfl⟩
theorem r_X11_hide_87 : RW M_X11_hide 87 (.iload 5) 2 0 0 89 := ⟨rfl, rfl⟩
theorem r_X11_hide_89 : RW M_X11_hide 89 (.invokevirtual 361) 3 219 0 92 := ⟨rfl, rfl⟩
theorem r_X11_hide_92 : RW M_X11_hide 92 (.iastore) 1 0 0 93 := ⟨rfl, rfl⟩
theorem r_X11_hide_93 : RW M_X11_hide 93 (.iinc 5 1) 3 0 0 96 := ⟨rfl, rfl⟩
theorem r_X11_hide_96 : RW M_X11_hide 96 (.goto (-31)) 3 65 0 99 := ⟨rfl, rfl⟩
theorem r_X11_hide_99 : RW M_X11_hide 99 (.iload_n 3) 1 0 0 100 := ⟨rfl, rfl⟩
theorem r_X11_hide_100 : RW M_X11_hide 100 (.bipush 10) 2 0 0 102 := ⟨rfl, rfl⟩
theorem r_X11_hide_102 : RW M_X11_hide 102 (.imul) 1 0 0 103 := ⟨rfl, rfl⟩
theorem r_X11_hide_103 : RW M_X11_hide 103 (.istore_n 3) 1 0 0 104 := ⟨rfl, rfl⟩
theorem r_X11_hide_104 : RW M_X11_hide 104 (.iinc 4 1) 3 0 0 107 := ⟨rfl, rfl⟩
theorem r_X11_hide_107 : RW M_X11_hide 107 (.goto (-54)) 3 53 0 110 := ⟨rfl, rfl⟩
theorem r_X11_hide_110 : RW M_X11_hide 110 (.aload_n 0) 1 0 0 111 := ⟨rfl, rfl⟩
theorem r_X11_hide_111 : RW M_X11_hide 111 (.iconst (-1)) 1 0 0 112 := ⟨rfl, rfl⟩
theorem r_X11_hide_112 : RW M_X11_hide 112 (.putfield 416) 3 11 50 115 := ⟨rfl, rfl⟩
theorem r_X11_hide_115 : RW M_X11_hide 115 (.iconst (-1)) 1 0 0 116 := ⟨rfl, rfl⟩
theorem r_X11_hide_116 : RW M_X11_hide 116 (.istore 4) 2 0 0 118 := ⟨rfl, rfl⟩
theorem r_X11_hide_118 : RW M_X11_hide 118 (.iconst 0) 1 0 0 119 := ⟨rfl, rfl⟩
theorem r_X11_hide_119 : RW M_X11_hide 119 (.istore 5) 2 0 0 121 := ⟨rfl, rfl⟩
theorem r_X11_hide_121 : RW M_X11_hide 121 (.iload 5) 2 0 6 123 := ⟨rfl, rfl⟩
theorem r_X11_hide_123 : RW M_X11_hide 123 (.iload_n 3) 1 0 0 124 := ⟨rfl, rfl⟩
theorem r_X11_hide_124 : RW M_X11_hide 124 (.if_icmp .ge 59) 3 183 0 127 := ⟨rfl, rfl⟩
theorem r_X11_hide_127 : RW M_X11_hide 127 (.aload_n 0) 1 0 0 128 := ⟨rfl, rfl⟩
theorem r_X11_hide_128 : RW M_X11_hide 128 (.iload_n 1) 1 0 0 129 := ⟨rfl, rfl⟩
theorem r_X11_hide_129 : RW M_X11_hide 129 (.iload 5) 2 0 0 131 := ⟨rfl, rfl⟩
theorem r_X11_hide_131 : RW M_X11_hide 131 (.invokevirtual 419) 3 247 0 134 := ⟨rfl, rfl⟩
theorem r_X11_hide_134 : RW M_X11_hide 134 (.ifCond .ne 6) 3 140 0 137 := ⟨rfl, rfl⟩
theorem r_X11_hide_137 : RW M_X11_hide 137 (.goto 40) 3 177 0 140 := ⟨rfl, rfl⟩
theorem r_X11_hide_140 : RW M_X11_hide 140 (.iconst 0) 1 0 0 141 := ⟨rfl, rfl⟩
theorem r_X11_hide_141 : RW M_X11_hide 141 (.istore 4) 2 0 0 143 := ⟨rfl, rfl⟩
theorem r_X11_hide_143 : RW M_X11_hide 143 (.aload_n 0) 1 0 0 144 := ⟨rfl, rfl⟩
theorem r_X11_hide_144 : RW M_X11_hide 144 (.getfield 172) 3 11 24 147 := ⟨rfl, rfl⟩
theorem r_X11_hide_147 : RW M_X11_hide 147 (.iconst 1) 1 0 0 148 := ⟨rfl, rfl⟩
theorem r_X11_hide_148 : RW M_X11_hide 148 (.isub) 1 0 0 149 := ⟨rfl, rfl⟩
theorem r_X11_hide_149 : RW M_X11_hide 149 (.istore 6) 2 0 0 151 := ⟨rfl, rfl⟩
theorem r_X11_hide_151 : RW M_X11_hide 151 (.iload 6) 2 0 0 153 := ⟨rfl, rfl⟩
theorem r_X11_hide_153 : RW M_X11_hide 153 (.ifCond .lt 24) 3 177 0 156 := ⟨rfl, rfl⟩
theorem r_X11_hide_156 : RW M_X11_hide 156 (.bipush 10) 2 0 0 158 := ⟨rfl, rfl⟩
theorem r_X11_hide_158 : RW M_X11_hide 158 (.iload 4) 2 0 0 160 := ⟨rfl, rfl⟩
theorem r_X11_hide_160 : RW M_X11_hide 160 (.imul) 1 0 0 161 := ⟨rfl, rfl⟩
theorem r_X11_hide_161 : RW M_X11_hide 161 (.aload_n 0) 1 0 0 162 := ⟨rfl, rfl⟩
theorem r_X11_hide_162 : RW M_X11_hide 162 (.getfield 89) 3 11 49 165 := ⟨rfl, rfl⟩
theorem r_X11_hide_165 : RW M_X11_hide 165 (.iload 6) 2 0 0 167 := ⟨rfl, rfl⟩
theorem r_X11_hide_167 : RW M_X11_hide 167 (.iaload) 1 0 0 168 := ⟨rfl, rfl⟩
theorem r_X11_hide_168 : RW M_X11_hide 168 (.iadd) 1 0 0 169 := ⟨rfl, rfl⟩
theorem r_X11_hide_169 : RW M_X11_hide 169 (.istore 4) 2 0 0 171 := ⟨rfl, rfl⟩
theorem r_X11_hide_171 : RW M_X11_hide 171 (.iinc 6 (-1)) 3 0 0 174 := ⟨rfl, rfl⟩
theorem r_X11_hide_174 : RW M_X11_hide 174 (.goto (-23)) 3 151 0 177 := ⟨rfl, rfl⟩
theorem r_X11_hide_177 : RW M_X11_hide 177 (.iinc 5 1) 3 0 0 180 := ⟨rfl, rfl⟩
theorem r_X11_hide_180 : RW M_X11_hide 180 (.goto (-59)) 3 121 0 183 := ⟨rfl, rfl⟩
theorem r_X11_hide_183 : RW M_X11_hide 183 (.iload_n 2) 1 0 0 184 := ⟨rfl, rfl⟩
theorem r_X11_hide_184 : RW M_X11_hide 184 (.ifCond .ne 10) 3 194 0 187 := ⟨rfl, rfl⟩
theorem r_X11_hide_187 : RW M_X11_hide 187 (.aload_n 0) 1 0 0 188 := ⟨rfl, rfl⟩
theorem r_X11_hide_188 : RW M_X11_hide 188 (.getfield 416) 3 11 50 191 := ⟨rfl, rfl⟩
theorem r_X11_hide_191 : RW M_X11_hide 191 (.goto 5) 3 196 0 194 := ⟨rfl, rfl⟩
theorem r_X11_hide_194 : RW M_X11_hide 194 (.iload 4) 2 0 0 196 := ⟨rfl, rfl⟩
theorem r_X11_hide_196 : RW M_X11_hide 196 (.ireturn) 1 0 0 197 := ⟨rfl, rfl⟩
theorem r_X11_isHidden_0 : RW M_X11_isHidden 0 (.iconst 0) 1 0 0 1 := ⟨rfl, rfl⟩
theorem r_X11_isHidden_1 : RW M_X11_isHidden 1 (.istore_n 3) 1 0 0 2 := ⟨rfl, rfl⟩
theorem r_X11_isHidden_2 : RW M_X11_isHidden 2 (.iconst 0) 1 0 0 3 := ⟨rfl, rfl⟩
theorem r_X11_isHidden_3 : RW M_X11_isHidden 3 (.istore 4) 2 0 0 5 := ⟨rfl, rfl⟩
theorem r_X11_isHidden_5 : RW M_X11_isHidden 5 (.iload_n 2) 1 0 0 6 := ⟨rfl, rfl⟩
theorem r_X11_isHidden_6 : RW M_X11_isHidden 6 (.istore 5) 2 0 0 8 := ⟨rfl, rfl⟩
theorem r_X11_isHidden_8 : RW M_X11_isHidden 8 (.iconst 1) 1 0 0 9 := ⟨rfl, rfl⟩
theorem r_X11_isHidden_9 : RW M_X11_isHidden 9 (.istore 6) 2 0 0 11 := ⟨rfl, rfl⟩
theorem r_X11_isHidden_11 : RW M_X11_isHidden 11 (.aload_n 0) 1 0 0 12 := ⟨rfl, rfl⟩
theorem r_X11_isHidden_12 : RW M_X11_isHidden 12 (.getfield 172) 3 11 24 15 := ⟨rfl, rfl⟩
theorem r_X11_isHidden_15 : RW M_X11_isHidden 15 (.iconst 1) 1 0 0 16 := ⟨rfl, rfl⟩
theorem r_X11_isHidden_16 : RW M_X11_isHidden 16 (.isub) 1 0 0 17 := ⟨rfl, rfl⟩
theorem r_X11_isHidden_17 : RW M_X11_isHidden 17 (.istore 7) 2 0 0 19 := ⟨rfl, rfl⟩
theorem r_X11_isHidden_19 : RW M_X11_isHidden 19 (.iload 7) 2 0 8 21 := ⟨rfl, rfl⟩
theorem r_X11_isHidden_21 : RW M_X11_isHidden 21 (.ifCond .lt 92) 3 113 0 24 := ⟨rfl, rfl⟩
theorem r_X11_isHidden_24 : RW M_X11_isHidden 24 (.iload 5) 2 0 0 26 := ⟨rfl, rfl⟩
theorem r_X11_isHidden_26 : RW M_X11_isHidden 26 (.bipush 10) 2 0 0 28 := ⟨rfl, rfl⟩
theorem r_X11_isHidden_28 : RW M_X11_isHidden 28 (.irem) 1 0 0 29 := ⟨rfl, rfl⟩
theorem r_X11_isHidden_29 : RW M_X11_isHidden 29 (.istore 8) 2 0 0 31 := ⟨rfl, rfl⟩
theorem r_X11_isHidden_31 : RW M_X11_isHidden 31 (.iload 5) 2 0 0 33 := ⟨rfl, rfl⟩
theorem r_X11_isHidden_33 : RW M_X11_isHidden 33 (.bipush 10) 2 0 0 35 := ⟨rfl, rfl⟩
theorem r_X11_isHidden_35 : RW M_X11_isHidden 35 (.idiv) 1 0 0 36 := ⟨rfl, rfl⟩
theorem r_X11_isHidden_36 : RW M_X11_isHidden 36 (.istore 5) 2 0 0 38 := ⟨rfl, rfl⟩
theorem r_X11_isHidden_38 : RW M_X11_isHidden 38 (.aload_n 0) 1 0 0 39 := ⟨rfl, rfl⟩
theorem r_X11_isHidden_39 : RW M_X11_isHidden 39 (.getfield 89) 3 11 49 42 := ⟨rfl, rfl⟩
theorem r_X11_isHidden_42 : RW M_X11_isHidden 42 (.iload 7) 2 0 0 44 := ⟨rfl, rfl⟩
theorem r_X11_isHidden_44 : RW M_X11_isHidden 44 (.iload 8) 2 0 0 46 := ⟨rfl, rfl⟩
theorem r_X11_isHidden_46 : RW M_X11_isHidden 46 (.iastore) 1 0 0 47 := ⟨rfl, rfl⟩
theorem r_X11_isHidden_47 : RW M_X11_isHidden 47 (.iload 4) 2 0 0 49 := ⟨rfl, rfl⟩
theorem r_X11_isHidden_49 : RW M_X11_isHidden 49 (.iload 8) 2 0 0 51 := ⟨rfl, rfl⟩
theorem r_X11_isHidden_51 : RW M_X11_isHidden 51 (.iadd) 1 0 0 52 := ⟨rfl, rfl⟩
theorem r_X11_isHidden_52 : RW M_X11_isHidden 52 (.istore 4) 2 0 0 54 := ⟨rfl, rfl⟩
theorem r_X11_isHidden_54 : RW M_X11_isHidden 54 (.iload_n 3) 1 0 0 55 := ⟨rfl, rfl⟩
theorem r_X11_isHidden_55 : RW M_X11_isHidden 55 (.aload_n 0) 1 0 0 56 := ⟨rfl, rfl⟩
theorem r_X11_isHidden_56 : RW M_X11_isHidden 56 (.getfield 86) 3 11 48 59 := ⟨rfl, rfl⟩
theorem r_X11_isHidden_59 : RW M_X11_isHidden 59 (.bipush 10) 2 0 0 61 := ⟨rfl, rfl⟩
theorem r_X11_isHidden_61 : RW M_X11_isHidden 61 (.iload 7) 2 0 0 63 := ⟨rfl, rfl⟩
theorem r_X11_isHidden_63 : RW M_X11_isHidden 63 (.imul) 1 0 0 64 := ⟨rfl, rfl⟩
theorem r_X11_isHidden_64 : RW M_X11_isHidden 64 (.iload 8) 2 0 0 66 := ⟨rfl, rfl⟩
theorem r_X11_isHidden_66 : RW M_X11_isHidden 66 (.iadd) 1 0 0 67 := ⟨rfl, rfl⟩
theorem r_X11_isHidden_67 : RW M_X11_isHidden 67 (.iaload) 1 0 0 68 := ⟨rfl, rfl⟩
theorem r_X11_isHidden_68 : RW M_X11_isHidden 68 (.ior) 1 0 0 69 := ⟨rfl, rfl⟩
theorem r_X11_isHidden_69 : RW M_X11_isHidden 69 (.istore_n 3) 1 0 0 70 := ⟨rfl, rfl⟩
theorem r_X11_isHidden_70 : RW M_X11_isHidden 70 (.iload 6) 2 0 0 72 := ⟨rfl, rfl⟩
theorem r_X11_isHidden_72 : RW M_X11_isHidden 72 (.ifCond .eq 32) 3 104 0 75 := ⟨rfl, rfl⟩
theorem r_X11_isHidden_75 : RW M_X11_isHidden 75 (.iload 8) 2 0 0 77 := ⟨rfl, rfl⟩
theorem r_X11_isHidden_77 : RW M_X11_isHidden 77 (.ifCond .eq 23) 3 100 0 80 := ⟨rfl, rfl⟩
theorem r_X11_isHidden_80 : RW M_X11_isHidden 80 (.aload_n 0) 1 0 0 81 := ⟨rfl, rfl⟩
theorem r_X11_isHidden_81 : RW M_X11_isHidden 81 (.getfield 74) 3 11 43 84 := ⟨rfl, rfl⟩
theorem r_X11_isHidden_84 : RW M_X11_isHidden 84 (.bipush 18) 2 0 0 86 := ⟨rfl, rfl⟩
theorem r_X11_isHidden_86 : RW M_X11_isHidden 86 (.iload 7) 2 0 0 88 := ⟨rfl, rfl⟩
theorem r_X11_isHidden_88 : RW M_X11_isHidden 88 (.iadd) 1 0 0 89 := ⟨rfl, rfl⟩
theorem r_X11_isHidden_89 : RW M_X11_isHidden 89 (.iaload) 1 0 0 90 := ⟨rfl, rfl⟩
theorem r_X11_isHidden_90 : RW M_X11_isHidden 90 (.aload_n 0) 1 0 0 91 := ⟨rfl, rfl⟩
theorem r_X11_isHidden_91 : RW M_X11_isHidden 91 (.getfield 74) 3 11 43 94 := ⟨rfl, rfl⟩
theorem r_X11_isHidden_94 : RW M_X11_isHidden 94 (.bipush 30) 2 0 0 96 := ⟨rfl, rfl⟩
theorem r_X11_isHidden_96 : RW M_X11_isHidden 96 (.iaload) 1 0 0 97 := ⟨rfl, rfl⟩
theorem r_X11_isHidden_97 : RW M_X11_isHidden 97 (.if_icmp .lt 7) 3 104 0 100 := ⟨rfl, rfl⟩
theorem r_X11_isHidden_100 : RW M_X11_isHidden 100 (.iconst 1) 1 0 0 101 := ⟨rfl, rfl⟩
theorem r_X11_isHidden_101 : RW M_X11_isHidden 101 (.goto 4) 3 105 0 104 := ⟨rfl, rfl⟩
theorem r_X11_isHidden_104 : RW M_X11_isHidden 104 (.iconst 0) 1 0 0 105 := ⟨rfl, rfl⟩
theorem r_X11_isHidden_105 : RW M_X11_isHidden 105 (.istore 6) 2 0 0 107 := ⟨rfl, rfl⟩
theorem r_X11_isHidden_107 : RW M_X11_isHidden 107 (.iinc 7 (-1)) 3 0 0 110 := ⟨rfl, rfl⟩
theorem r_X11_isHidden_110 : RW M_X11_isHidden 110 (.goto (-91)) 3 19 0 113 := ⟨rfl, rfl⟩
theorem r_X11_isHidden_113 : RW M_X11_isHidden 113 (.iload 6) 2 0 0 115 := ⟨rfl, rfl⟩
theorem r_X11_isHidden_115 : RW M_X11_isHidden 115 (.ifCond .eq 28) 3 143 0 118 := ⟨rfl, rfl⟩
theorem r_X11_isHidden_118 : RW M_X11_isHidden 118 (.iload_n 1) 1 0 0 119 := ⟨rfl, rfl⟩
theorem r_X11_isHidden_119 : RW M_X11_isHidden 119 (.iload_n 3) 1 0 0 120 := ⟨rfl, rfl⟩
theorem r_X11_isHidden_120 : RW M_X11_isHidden 120 (.iconst (-1)) 1 0 0 121 := ⟨rfl, rfl⟩
theorem r_X11_isHidden_121 : RW M_X11_isHidden 121 (.ixor) 1 0 0 122 := ⟨rfl, rfl⟩
theorem r_X11_isHidden_122 : RW M_X11_isHidden 122 (.iand) 1 0 0 123 := ⟨rfl, rfl⟩
theorem r_X11_isHidden_123 : RW M_X11_isHidden 123 (.ifCond .ne 20) 3 143 0 126 := ⟨rfl, rfl⟩
theorem r_X11_isHidden_126 : RW M_X11_isHidden 126 (.aload_n 0) 1 0 0 127 := ⟨rfl, rfl⟩
theorem r_X11_isHidden_127 : RW M_X11_isHidden 127 (.getfield 416) 3 11 50 130 := ⟨rfl, rfl⟩
theorem r_X11_isHidden_130 : RW M_X11_isHidden 130 (.iconst (-1)) 1 0 0 131 := ⟨rfl, rfl⟩
theorem r_X11_isHidden_131 : RW M_X11_isHidden 131 (.if_icmp .eq 14) 3 145 0 134 := ⟨rfl, rfl⟩
theorem r_X11_isHidden_134 : RW M_X11_isHidden 134 (.iload 4) 2 0 0 136 := ⟨rfl, rfl⟩
theorem r_X11_isHidden_136 : RW M_X11_isHidden 136 (.aload_n 0) 1 0 0 137 := ⟨rfl, rfl⟩
theorem r_X11_isHidden_137 : RW M_X11_isHidden 137 (.getfield 416) 3 11 50 140 := ⟨rfl, rfl⟩
theorem r_X11_isHidden_140 : RW M_X11_isHidden 140 (.if_icmp .lt 5) 3 145 0 143 := ⟨rfl, rfl⟩
theorem r_X11_isHidden_143 : RW M_X11_isHidden 143 (.iconst 0) 1 0 0 144 := ⟨rfl, rfl⟩
theorem r_X11_isHidden_144 : RW M_X11_isHidden 144 (.ireturn) 1 0 0 145 := ⟨rfl, rfl⟩
theorem r_X11_isHidden_145 : RW M_X11_isHidden 145 (.aload_n 0) 1 0 0 146 := ⟨rfl, rfl⟩
theorem r_X11_isHidden_146 : RW M_X11_isHidden 146 (.iload 4) 2 0 0 148 := ⟨rfl, rfl⟩
theorem r_X11_isHidden_148 : RW M_X11_isHidden 148 (.putfield 416) 3 11 50 151 := ⟨rfl, rfl⟩
theorem r_X11_isHidden_151 : RW M_X11_isHidden 151 (.iconst 1) 1 0 0 152 := ⟨rfl, rfl⟩
theorem r_X11_isHidden_152 : RW M_X11_isHidden 152 (.ireturn) 1 0 0 153 := ⟨rfl, rfl⟩
theorem m_isHid {d : Nat} {I : Nat → Nat → Int32} {J : Nat → Nat → Int64} {κ : CT} {l : LW} {η : HS} (mc_ : MC κ I) (cb : CB κ) (mr : MR 126 κ η I) (hb_ : HB κ η) (cv : ∀ j, j < 10 * κ.nb → I 130 j = nI (cvd κ l η j)) {wt x : Nat} {st : PP} (wt9 : wt < 512) (hx : x < 100000) (h50 : I 106 50 = opI (pm1 st)) (sb : stB st)  (hd : 2 ≤ d) : RI d 247 [.ref 106, .int (nI wt), .int (nI x)] I J (fun v I' => v = bI (okN κ l η wt x st) ∧ I' 106 50 = opI (pm1 (upN κ l η wt x st)) ∧ (∀ i, i < κ.nb → I' 131 (κ.nb - 1 - i) = nI (dig x i)) ∧ (∀ o, o ≠ 106 → o ≠ 131 → I' o = I o) ∧ ∀ j, j ≠ 50 → I' 106 j = I 106 j) := by
  refine RI.in (d0 := 1) hd mt_247 (Nat.le_of_ble_eq_true rfl) (fun d' hd' => ?_)
  have bns := cb.ns; have bnb := cb.nb; have bnc := cb.nc; have bnr := cb.nr
  have pn := pow_ns cb
  show EV none M_X11_isHidden d' 0 [(0, .ref 106), (1, .int (nI wt)), (2, .int (nI x))] [] (hp I J) _
  refine EV.o r_X11_isHidden_0 (icN (0) (v := 0)) ?_
  refine EV.l (lv' := [(0, _), (1, _), (2, _), (3, _)]) r_X11_isHidden_1 rfl ?_
  refine EV.o r_X11_isHidden_2 (icN (0) (v := 0)) ?_
  refine EV.l (lv' := [(0, _), (1, _), (2, _), (3, _), (4, _)]) r_X11_isHidden_3 rfl ?_
  refine EV.l (lv' := [(0, _), (1, _), (2, _), (3, _), (4, _)]) r_X11_isHidden_5 rfl ?_
  refine EV.l (lv' := [(0, _), (1, _), (2, _), (3, _), (4, _), (5, _)]) r_X11_isHidden_6 rfl ?_
  refine EV.o r_X11_isHidden_8 (icN (1) (v := 1)) ?_
  refine EV.l (lv' := [(0, _), (1, _), (2, _), (3, _), (4, _), (5, _), (6, _)]) r_X11_isHidden_9 rfl ?_
  refine EV.l (lv' := [(0, _), (1, _), (2, _), (3, _), (4, _), (5, _), (6, _)]) r_X11_isHidden_11 rfl ?_
  refine EV.getV r_X11_isHidden_12 la_106 (mc_.nb) ?_
  refine EV.o r_X11_isHidden_15 (icN (1) (v := 1)) ?_
  refine EV.o r_X11_isHidden_16 (isubNZ) ?_
  refine EV.l (lv' := [(0, _), (1, _), (2, _), (3, _), (4, _), (5, _), (6, _), (7, _)]) r_X11_isHidden_17 rfl ?_
  have L19 : ∀ y_ : Nat × (Nat → Nat → Int32), (fun y => (y.1 ≤ κ.nb ∧ (∀ o, o ≠ 131 → y.2 o = I o) ∧ ∀ i, i < y.1 → y.2 131 (κ.nb - 1 - i) = nI (dig x i)) → EV none M_X11_isHidden d' 19 [(0, .ref 106), (1, .int (nI wt)), (2, .int (nI x)), (3, .int (nI (hb1 (ovr κ l η) κ.nb x y.1))), (4, .int (nI (hs1 x y.1))), (5, .int (nI (rst x y.1))), (6, .int (bI (hi1 (mxB η) κ.nb x y.1))), (7, .int (zI ((κ.nb : Int) - 1 - (y.1 : Int))))] [] (hp y.2 J) (QI J (fun v I' => v = bI (okN κ l η wt x st) ∧ I' 106 50 = opI (pm1 (upN κ l η wt x st)) ∧ (∀ i, i < κ.nb → I' 131 (κ.nb - 1 - i) = nI (dig x i)) ∧ (∀ o, o ≠ 106 → o ≠ 131 → I' o = I o) ∧ ∀ j, j ≠ 50 → I' 106 j = I 106 j))) y_ := by
    refine ev_loop (fun y => κ.nb - y.1) ?_
    intro ⟨i, I1⟩ ih19 hx19
    try dsimp only at ih19
    try dsimp only at hx19
    try dsimp only
    have il := hx19.1; have f1 := hx19.2.1
    have leadq := hx19.2.2
    have mc1 := MC.fr (I' := I1) mc_ (f1 106 (by decide)) (fun x h1 h2 => f1 x (by omega))
    have mr1 := MR.fr (I' := I1) mr (f1 126 (by decide))
    have aw := andc_lt9 (x := wt) (y := hb1 (ovr κ l η) κ.nb x i) wt9
    have dl := dig_lt x i; have rl := rst_le x i; have hl := hb1_lt (κ := κ) (l := l) (η := η) (x := x) i; have sl := hs1_le x i
    have f50 : I1 106 50 = opI (pm1 st) := by rw [f1 106 (by decide)]; exact h50
    have fr_ : ∀ o, o ≠ 106 → o ≠ 131 → I1 o = I o := fun o _ h => f1 o h
    have fr6 : ∀ j, j ≠ 50 → I1 106 j = I 106 j := fun j _ => by rw [f1 106 (by decide)]
    refine EV.l (lv' := [(0, _), (1, _), (2, _), (3, _), (4, _), (5, _), (6, _), (7, _)]) r_X11_isHidden_19 rfl ?_
    refine EV.z0_lt r_X11_isHidden_21 (fun h21 => ?_) (fun h21 => ?_)
    · -- 21 t
      obtain rfl : i = κ.nb := by omega
      refine EV.l (lv' := [(0, _), (1, _), (2, _), (3, _), (4, _), (5, _), (6, _), (7, _)]) r_X11_isHidden_113 rfl ?_
      refine EV.b0_eq r_X11_isHidden_115 (fun h115 => ?_) (fun h115 => ?_)
      · -- 115 t
        refine EV.o r_X11_isHidden_143 (icN (0) (v := 0)) ?_
        exact EV.ri r_X11_isHidden_144 (by first | exact ⟨by rw [okN_f (Or.inl (by assumption))]; rfl, by rw [upN_f (Or.inl (by assumption))]; exact f50, fun i hi => leadq i (by omega), fr_, fr6⟩ | exact ⟨by rw [okN_f (Or.inr (Or.inl (by assumption)))]; rfl, by rw [upN_f (Or.inr (Or.inl (by assumption)))]; exact f50, fun i hi => leadq i (by omega), fr_, fr6⟩ | exact ⟨by rw [okN_f (Or.inr (Or.inr (by assumption)))]; rfl, by rw [upN_f (Or.inr (Or.inr (by assumption)))]; exact f50, fun i hi => leadq i (by omega), fr_, fr6⟩)
      · -- 115 f
        refine EV.l (lv' := [(0, _), (1, _), (2, _), (3, _), (4, _), (5, _), (6, _), (7, _)]) r_X11_isHidden_118 rfl ?_
        refine EV.l (lv' := [(0, _), (1, _), (2, _), (3, _), (4, _), (5, _), (6, _), (7, _)]) r_X11_isHidden_119 rfl ?_
        refine EV.o r_X11_isHidden_120 (icZ (-1)) ?_
        refine EV.o r_X11_isHidden_121 inotN ?_
        refine EV.o r_X11_isHidden_122 iandC ?_
        refine EV.n0_ne r_X11_isHidden_123 (fun h123 => ?_) (fun h123 => ?_)
        · -- 123 t
          refine EV.o r_X11_isHidden_143 (icN (0) (v := 0)) ?_
          exact EV.ri r_X11_isHidden_144 (by first | exact ⟨by rw [okN_f (Or.inl (by assumption))]; rfl, by rw [upN_f (Or.inl (by assumption))]; exact f50, fun i hi => leadq i (by omega), fr_, fr6⟩ | exact ⟨by rw [okN_f (Or.inr (Or.inl (by assumption)))]; rfl, by rw [upN_f (Or.inr (Or.inl (by assumption)))]; exact f50, fun i hi => leadq i (by omega), fr_, fr6⟩ | exact ⟨by rw [okN_f (Or.inr (Or.inr (by assumption)))]; rfl, by rw [upN_f (Or.inr (Or.inr (by assumption)))]; exact f50, fun i hi => leadq i (by omega), fr_, fr6⟩)
        · -- 123 f
          refine EV.l (lv' := [(0, _), (1, _), (2, _), (3, _), (4, _), (5, _), (6, _), (7, _)]) r_X11_isHidden_126 rfl ?_
          refine EV.getV r_X11_isHidden_127 la_106 (f50) ?_
          refine EV.o r_X11_isHidden_130 (icZ (-1)) ?_
          refine EV.op_eq r_X11_isHidden_131 (fun h131 => ?_) (fun h131 => ?_) (fun c ec_ => by have := pm1_le sb ec_; omega)
          · -- 131 t
            have hpr : pr st (hs1 x κ.nb) = false := pr_n h131
            refine EV.l (lv' := [(0, _), (1, _), (2, _), (3, _), (4, _), (5, _), (6, _), (7, _)]) r_X11_isHidden_145 rfl ?_
            refine EV.l (lv' := [(0, _), (1, _), (2, _), (3, _), (4, _), (5, _), (6, _), (7, _)]) r_X11_isHidden_146 rfl ?_
            refine EV.pIn r_X11_isHidden_148 la_106 (fun I4 e4 => ?_)
            refine EV.o r_X11_isHidden_151 (icN (1) (v := 1)) ?_
            exact EV.ri r_X11_isHidden_152 (⟨by rw [okN_t (by assumption) (by omega) hpr]; rfl, by rw [upN_t (by assumption) (by omega) hpr]; subst e4; exact wr_same, fun i hi => by subst e4; rw [wr_row (by decide)]; exact leadq i (by omega), fun o h1 h2 => by subst e4; exact (wr_row h1).trans (fr_ o h1 h2), fun j hj => by subst e4; exact (wr_ne (Or.inr hj)).trans (fr6 j hj)⟩)
          · -- 131 f
            obtain ⟨c, ec_⟩ := h131
            have cl9 := pm1_le sb ec_
            refine EV.l (lv' := [(0, _), (1, _), (2, _), (3, _), (4, _), (5, _), (6, _), (7, _)]) r_X11_isHidden_134 rfl ?_
            refine EV.l (lv' := [(0, _), (1, _), (2, _), (3, _), (4, _), (5, _), (6, _), (7, _)]) r_X11_isHidden_136 rfl ?_
            refine EV.getV r_X11_isHidden_137 la_106 (f50) ?_
            rw [ec_, opI_some]
            refine EV.n2_lt r_X11_isHidden_140 (fun h140 => ?_) (fun h140 => ?_)
            · -- 140 t
              have hpr : pr st (hs1 x κ.nb) = false := pr_lt ec_ h140
              refine EV.l (lv' := [(0, _), (1, _), (2, _), (3, _), (4, _), (5, _), (6, _), (7, _)]) r_X11_isHidden_145 rfl ?_
              refine EV.l (lv' := [(0, _), (1, _), (2, _), (3, _), (4, _), (5, _), (6, _), (7, _)]) r_X11_isHidden_146 rfl ?_
              refine EV.pIn r_X11_isHidden_148 la_106 (fun I4 e4 => ?_)
              refine EV.o r_X11_isHidden_151 (icN (1) (v := 1)) ?_
              exact EV.ri r_X11_isHidden_152 (⟨by rw [okN_t (by assumption) (by omega) hpr]; rfl, by rw [upN_t (by assumption) (by omega) hpr]; subst e4; exact wr_same, fun i hi => by subst e4; rw [wr_row (by decide)]; exact leadq i (by omega), fun o h1 h2 => by subst e4; exact (wr_row h1).trans (fr_ o h1 h2), fun j hj => by subst e4; exact (wr_ne (Or.inr hj)).trans (fr6 j hj)⟩)
            · -- 140 f
              have hpr : pr st (hs1 x κ.nb) = true := pr_ge ec_ h140
              refine EV.o r_X11_isHidden_143 (icN (0) (v := 0)) ?_
              exact EV.ri r_X11_isHidden_144 (by first | exact ⟨by rw [okN_f (Or.inl (by assumption))]; rfl, by rw [upN_f (Or.inl (by assumption))]; exact f50, fun i hi => leadq i (by omega), fr_, fr6⟩ | exact ⟨by rw [okN_f (Or.inr (Or.inl (by assumption)))]; rfl, by rw [upN_f (Or.inr (Or.inl (by assumption)))]; exact f50, fun i hi => leadq i (by omega), fr_, fr6⟩ | exact ⟨by rw [okN_f (Or.inr (Or.inr (by assumption)))]; rfl, by rw [upN_f (Or.inr (Or.inr (by assumption)))]; exact f50, fun i hi => leadq i (by omega), fr_, fr6⟩)
    · -- 21 f
      rw [zj (by omega)]
      refine EV.l (lv' := [(0, _), (1, _), (2, _), (3, _), (4, _), (5, _), (6, _), (7, _)]) r_X11_isHidden_24 rfl ?_
      refine EV.o r_X11_isHidden_26 (bpN (10) 10) ?_
      refine EV.o r_X11_isHidden_28 (iremN) ?_
      rw [dig_r]
      refine EV.l (lv' := [(0, _), (1, _), (2, _), (3, _), (4, _), (5, _), (6, _), (7, _), (8, _)]) r_X11_isHidden_29 rfl ?_
      refine EV.l (lv' := [(0, _), (1, _), (2, _), (3, _), (4, _), (5, _), (6, _), (7, _), (8, _)]) r_X11_isHidden_31 rfl ?_
      refine EV.o r_X11_isHidden_33 (bpN (10) 10) ?_
      refine EV.o r_X11_isHidden_35 (idivN) ?_
      refine EV.l (lv' := [(0, _), (1, _), (2, _), (3, _), (4, _), (5, _), (6, _), (7, _), (8, _)]) r_X11_isHidden_36 rfl ?_
      refine EV.l (lv' := [(0, _), (1, _), (2, _), (3, _), (4, _), (5, _), (6, _), (7, _), (8, _)]) r_X11_isHidden_38 rfl ?_
      refine EV.gR r_X11_isHidden_39 la_106 ?_
      refine EV.l (lv' := [(0, _), (1, _), (2, _), (3, _), (4, _), (5, _), (6, _), (7, _), (8, _)]) r_X11_isHidden_42 rfl ?_
      refine EV.l (lv' := [(0, _), (1, _), (2, _), (3, _), (4, _), (5, _), (6, _), (7, _), (8, _)]) r_X11_isHidden_44 rfl ?_
      refine EV.iaSn r_X11_isHidden_46 la_131 (fun I2 e2 => ?_)
      refine EV.l (lv' := [(0, _), (1, _), (2, _), (3, _), (4, _), (5, _), (6, _), (7, _), (8, _)]) r_X11_isHidden_47 rfl ?_
      refine EV.l (lv' := [(0, _), (1, _), (2, _), (3, _), (4, _), (5, _), (6, _), (7, _), (8, _)]) r_X11_isHidden_49 rfl ?_
      refine EV.o r_X11_isHidden_51 iaddN ?_
      refine EV.l (lv' := [(0, _), (1, _), (2, _), (3, _), (4, _), (5, _), (6, _), (7, _), (8, _)]) r_X11_isHidden_52 rfl ?_
      refine EV.l (lv' := [(0, _), (1, _), (2, _), (3, _), (4, _), (5, _), (6, _), (7, _), (8, _)]) r_X11_isHidden_54 rfl ?_
      refine EV.l (lv' := [(0, _), (1, _), (2, _), (3, _), (4, _), (5, _), (6, _), (7, _), (8, _)]) r_X11_isHidden_55 rfl ?_
      refine EV.gR r_X11_isHidden_56 la_106 ?_
      refine EV.o r_X11_isHidden_59 (bpN (10) 10) ?_
      refine EV.l (lv' := [(0, _), (1, _), (2, _), (3, _), (4, _), (5, _), (6, _), (7, _), (8, _)]) r_X11_isHidden_61 rfl ?_
      refine EV.o r_X11_isHidden_63 imulN ?_
      refine EV.l (lv' := [(0, _), (1, _), (2, _), (3, _), (4, _), (5, _), (6, _), (7, _), (8, _)]) r_X11_isHidden_64 rfl ?_
      refine EV.o r_X11_isHidden_66 iaddN ?_
      refine EV.iaN r_X11_isHidden_67 la_130 ((by subst e2; exact (congrFun (wr_row (by decide)) _).trans (cvm_at (fun j hj => by rw [f1 130 (by decide)]; exact cv j hj) (by omega) (by omega)))) ?_
      refine EV.o r_X11_isHidden_68 iorN ?_
      refine EV.l (lv' := [(0, _), (1, _), (2, _), (3, _), (4, _), (5, _), (6, _), (7, _), (8, _)]) r_X11_isHidden_69 rfl ?_
      have be9 := hb_.be (κ.nb - 1 - i); have mi9 := hb_.mi
      refine EV.l (lv' := [(0, _), (1, _), (2, _), (3, _), (4, _), (5, _), (6, _), (7, _), (8, _)]) r_X11_isHidden_70 rfl ?_
      refine EV.b0_eq r_X11_isHidden_72 (fun h72 => ?_) (fun h72 => ?_)
      · -- 72 t
        refine EV.o r_X11_isHidden_104 (icN (0) (v := 0)) ?_
        refine EV.l (lv' := [(0, _), (1, _), (2, _), (3, _), (4, _), (5, _), (6, _), (7, _), (8, _)]) r_X11_isHidden_105 rfl ?_
        refine EV.l (lv' := [(0, _), (1, _), (2, _), (3, _), (4, _), (5, _), (6, _), (7, _), (8, _)]) r_X11_isHidden_107 rfl ?_
        rw [dec_nZ]
        refine EV.g r_X11_isHidden_110 ?_
        refine EV.fg (lv' := [(0, _), (1, _), (2, _), (3, _), (4, _), (5, _), (6, _), (7, _)]) r_X11_isHidden_19 rfl rfl rfl ?_
        refine EV.sub ?_ rfl ?_ (ih19 (i + 1, I2) ?_ ?_)
        · (try dsimp only) <;> (rw [show (((κ.nb - 1 - i : Nat) : Int) - 1) = (κ.nb : Int) - 1 - ((i + 1 : Nat) : Int) by omega]; first | (rw [hi_f (by assumption)]; rfl) | (rw [hi_0 (by assumption) (by assumption)]; rfl) | (rw [hi_9 (by assumption) (by omega)]; rfl) | (rw [hi_n (by assumption) (by omega)]; rfl))
        · (try dsimp only) <;> (rfl)
        · (try dsimp only) <;> (omega)
        · (try dsimp only) <;> (subst e2; exact ⟨by omega, fun o ho => (wr_row ho).trans (f1 o ho), ld_s leadq (by omega)⟩)
      · -- 72 f
        refine EV.l (lv' := [(0, _), (1, _), (2, _), (3, _), (4, _), (5, _), (6, _), (7, _), (8, _)]) r_X11_isHidden_75 rfl ?_
        refine EV.n0_eq r_X11_isHidden_77 (fun h77 => ?_) (fun h77 => ?_)
        · -- 77 t
          refine EV.o r_X11_isHidden_100 (icN (1) (v := 1)) ?_
          refine EV.g r_X11_isHidden_101 ?_
          refine EV.l (lv' := [(0, _), (1, _), (2, _), (3, _), (4, _), (5, _), (6, _), (7, _), (8, _)]) r_X11_isHidden_105 rfl ?_
          refine EV.l (lv' := [(0, _), (1, _), (2, _), (3, _), (4, _), (5, _), (6, _), (7, _), (8, _)]) r_X11_isHidden_107 rfl ?_
          rw [dec_nZ]
          refine EV.g r_X11_isHidden_110 ?_
          refine EV.fg (lv' := [(0, _), (1, _), (2, _), (3, _), (4, _), (5, _), (6, _), (7, _)]) r_X11_isHidden_19 rfl rfl rfl ?_
          refine EV.sub ?_ rfl ?_ (ih19 (i + 1, I2) ?_ ?_)
          · (try dsimp only) <;> (rw [show (((κ.nb - 1 - i : Nat) : Int) - 1) = (κ.nb : Int) - 1 - ((i + 1 : Nat) : Int) by omega]; first | (rw [hi_f (by assumption)]; rfl) | (rw [hi_0 (by assumption) (by assumption)]; rfl) | (rw [hi_9 (by assumption) (by omega)]; rfl) | (rw [hi_n (by assumption) (by omega)]; rfl))
          · (try dsimp only) <;> (rfl)
          · (try dsimp only) <;> (omega)
          · (try dsimp only) <;> (subst e2; exact ⟨by omega, fun o ho => (wr_row ho).trans (f1 o ho), ld_s leadq (by omega)⟩)
        · -- 77 f
          refine EV.l (lv' := [(0, _), (1, _), (2, _), (3, _), (4, _), (5, _), (6, _), (7, _), (8, _)]) r_X11_isHidden_80 rfl ?_
          refine EV.gR r_X11_isHidden_81 la_106 ?_
          refine EV.o r_X11_isHidden_84 (bpN (18) 18) ?_
          refine EV.l (lv' := [(0, _), (1, _), (2, _), (3, _), (4, _), (5, _), (6, _), (7, _), (8, _)]) r_X11_isHidden_86 rfl ?_
          refine EV.o r_X11_isHidden_88 iaddN ?_
          refine EV.iaN r_X11_isHidden_89 la_126 ((by subst e2; exact (congrFun (wr_row (by decide)) _).trans (mr1.be _ (by omega)))) ?_
          refine EV.l (lv' := [(0, _), (1, _), (2, _), (3, _), (4, _), (5, _), (6, _), (7, _), (8, _)]) r_X11_isHidden_90 rfl ?_
          refine EV.gR r_X11_isHidden_91 la_106 ?_
          refine EV.o r_X11_isHidden_94 (bpN (30) 30) ?_
          refine EV.iaN r_X11_isHidden_96 la_126 ((by subst e2; exact (congrFun (wr_row (by decide)) _).trans mr1.mi)) ?_
          refine EV.n2_lt r_X11_isHidden_97 (fun h97 => ?_) (fun h97 => ?_)
          · -- 97 t
            refine EV.o r_X11_isHidden_104 (icN (0) (v := 0)) ?_
            refine EV.l (lv' := [(0, _), (1, _), (2, _), (3, _), (4, _), (5, _), (6, _), (7, _), (8, _)]) r_X11_isHidden_105 rfl ?_
            refine EV.l (lv' := [(0, _), (1, _), (2, _), (3, _), (4, _), (5, _), (6, _), (7, _), (8, _)]) r_X11_isHidden_107 rfl ?_
            rw [dec_nZ]
            refine EV.g r_X11_isHidden_110 ?_
            refine EV.fg (lv' := [(0, _), (1, _), (2, _), (3, _), (4, _), (5, _), (6, _), (7, _)]) r_X11_isHidden_19 rfl rfl rfl ?_
            refine EV.sub ?_ rfl ?_ (ih19 (i + 1, I2) ?_ ?_)
            · (try dsimp only) <;> (rw [show (((κ.nb - 1 - i : Nat) : Int) - 1) = (κ.nb : Int) - 1 - ((i + 1 : Nat) : Int) by omega]; first | (rw [hi_f (by assumption)]; rfl) | (rw [hi_0 (by assumption) (by assumption)]; rfl) | (rw [hi_9 (by assumption) (by omega)]; rfl) | (rw [hi_n (by assumption) (by omega)]; rfl))
            · (try dsimp only) <;> (rfl)
            · (try dsimp only) <;> (omega)
            · (try dsimp only) <;> (subst e2; exact ⟨by omega, fun o ho => (wr_row ho).trans (f1 o ho), ld_s leadq (by omega)⟩)
          · -- 97 f
            refine EV.o r_X11_isHidden_100 (icN (1) (v := 1)) ?_
            refine EV.g r_X11_isHidden_101 ?_
            refine EV.l (lv' := [(0, _), (1, _), (2, _), (3, _), (4, _), (5, _), (6, _), (7, _), (8, _)]) r_X11_isHidden_105 rfl ?_
            refine EV.l (lv' := [(0, _), (1, _), (2, _), (3, _), (4, _), (5, _), (6, _), (7, _), (8, _)]) r_X11_isHidden_107 rfl ?_
            rw [dec_nZ]
            refine EV.g r_X11_isHidden_110 ?_
            refine EV.fg (lv' := [(0, _), (1, _), (2, _), (3, _), (4, _), (5, _), (6, _), (7, _)]) r_X11_isHidden_19 rfl rfl rfl ?_
            refine EV.sub ?_ rfl ?_ (ih19 (i + 1, I2) ?_ ?_)
            · (try dsimp only) <;> (rw [show (((κ.nb - 1 - i : Nat) : Int) - 1) = (κ.nb : Int) - 1 - ((i + 1 : Nat) : Int) by omega]; first | (rw [hi_f (by assumption)]; rfl) | (rw [hi_0 (by assumption) (by assumption)]; rfl) | (rw [hi_9 (by assumption) (by omega)]; rfl) | (rw [hi_n (by assumption) (by omega)]; rfl))
            · (try dsimp only) <;> (rfl)
            · (try dsimp only) <;> (omega)
            · (try dsimp only) <;> (subst e2; exact ⟨by omega, fun o ho => (wr_row ho).trans (f1 o ho), ld_s leadq (by omega)⟩)
  have h0 := L19 ((0, I))
  try dsimp only at h0
  refine EV.sub ?_ rfl ?_ (h0 ?_)
  · (try dsimp only) <;> (rw [show ((κ.nb : Int) - ((1 : Nat) : Int)) = (κ.nb : Int) - 1 - ((0 : Nat) : Int) by omega]; rfl)
  · (try dsimp only) <;> (rfl)
  · (try dsimp only) <;> (exact ⟨Nat.zero_le _, fun _ _ => rfl, fun i hi => absurd hi (Nat.not_lt_zero i)⟩)
theorem FR_hd {I I' : Nat → Nat → Int32} (hfo : ∀ o, o ≠ 106 → o ≠ 121 → o ≠ 122 → o ≠ 130 → o ≠ 131 → I' o = M2 I o) (hfj : ∀ j, j ≠ 50 → I' 106 j = M2 I 106 j) : FR I I' ∧ I' 106 0 = nI 0 := ⟨⟨fun j hj => by rw [hfj j (fun e => by subst e; exact absurd hj (by decide))]; exact M2_106 (fun e => by subst e; exact absurd hj (by decide)), fun o ho hs => (hfo o ho (fun e => by subst e; exact absurd hs (by decide)) (fun e => by subst e; exact absurd hs (by decide)) (fun e => by subst e; exact absurd hs (by decide)) (fun e => by subst e; exact absurd hs (by decide))).trans (M2_row ho (fun e => by subst e; exact absurd hs (by decide)))⟩, by rw [hfj 0 (by decide)]; exact M2_th⟩
theorem up_s {κ : CT} {l : LW} {η : HS} {wt x : Nat} : itr (upN κ l η wt) (x + 1) none = upN κ l η wt x (itr (upN κ l η wt) x none) := rfl
theorem m_hide0 {d : Nat} {I : Nat → Nat → Int32} {J : Nat → Nat → Int64} {κ : CT} {l : LW} {η : HS} (mc_ : MC κ I) (cb : CB κ) (mr : MR 125 κ η I) (hb_ : HB κ η) (ml_ : ML l I) (lb : LB l) {wt : Nat} (hx : wt < 2 ^ κ.ns)  (hd : 13 ≤ d) : RI d 248 [.ref 106, .int (nI wt), .int (nI 0)] I J (fun v I' => v = opI (pm1 (hid κ l η wt)) ∧ FR I I' ∧ I' 106 0 = nI 0) := by
  refine RI.in (d0 := 12) hd mt_248 (Nat.le_of_ble_eq_true rfl) (fun d' hd' => ?_)
  have bns := cb.ns; have bnb := cb.nb; have bnc := cb.nc; have bnr := cb.nr
  have pn := pow_ns cb; have mc1 := wr0_mc (v := nI 0) mc_
  show EV none M_X11_hide d' 0 [(0, .ref 106), (1, .int (nI wt)), (2, .int (nI 0))] [] (hp I J) _
  refine EV.l (lv' := [(0, _), (1, _), (2, _)]) r_X11_hide_0 rfl ?_
  refine EV.o r_X11_hide_1 (icN (0) (v := 0)) ?_
  refine EV.pI r_X11_hide_2 la_106 ?_
  refine EV.l (lv' := [(0, _), (1, _), (2, _)]) r_X11_hide_5 rfl ?_
  refine EV.l (lv' := [(0, _), (1, _), (2, _)]) r_X11_hide_6 rfl ?_
  refine EV.n0_lt r_X11_hide_7 (fun h7 => ?_) (fun h7 => ?_)
  · -- 7 t
    refine EV.o r_X11_hide_33 (icN (0) (v := 0)) ?_
    refine EV.o r_X11_hide_34 (icN (1) (v := 1)) ?_
    refine EV.o r_X11_hide_35 (icN (1) (v := 1)) ?_
    omega
  · -- 7 f
    refine EV.l (lv' := [(0, _), (1, _), (2, _)]) r_X11_hide_10 rfl ?_
    refine EV.o r_X11_hide_11 (icN (1) (v := 1)) ?_
    refine EV.l (lv' := [(0, _), (1, _), (2, _)]) r_X11_hide_12 rfl ?_
    refine EV.getV r_X11_hide_13 la_106 (mc1.ns) ?_
    refine EV.o r_X11_hide_16 (ishl1) ?_
    refine EV.n2_ge r_X11_hide_17 (fun h17 => ?_) (fun h17 => ?_)
    · omega
    · -- 17 f
      refine EV.l (lv' := [(0, _), (1, _), (2, _)]) r_X11_hide_20 rfl ?_
      refine EV.o r_X11_hide_21 (icN (0) (v := 0)) ?_
      refine EV.o r_X11_hide_22 (icN (1) (v := 1)) ?_
      refine EV.cv r_X11_hide_23 (aS3 mt_170) (m_wNNN (by omega) (by omega) (by omega) (by omega)) ?_
      refine EV.p0_eq r_X11_hide_26 (fun h26 => ?_) (fun h26 => ?_)
      · -- 26 t
        refine EV.o r_X11_hide_33 (icN (0) (v := 0)) ?_
        refine EV.o r_X11_hide_34 (icN (1) (v := 1)) ?_
        refine EV.o r_X11_hide_35 (icN (1) (v := 1)) ?_
        omega
      · -- 26 f
        refine EV.o r_X11_hide_29 (icN (1) (v := 1)) ?_
        refine EV.g r_X11_hide_30 ?_
        refine EV.o r_X11_hide_34 (icN (1) (v := 1)) ?_
        refine EV.o r_X11_hide_35 (icN (1) (v := 1)) ?_
        refine EV.cv r_X11_hide_36 (aV3 mt_169 la_106) (m_mayN wr_same (by omega)) ?_
        refine EV.n0_ne r_X11_hide_39 (fun h39 => ?_) (fun h39 => ?_)
        · -- 39 t
          refine EV.l (lv' := [(0, _), (1, _), (2, _)]) r_X11_hide_44 rfl ?_
          refine EV.cu r_X11_hide_45 (aV0 mt_212 la_106) (m_take (by omega)) (fun I2 e2 => ?_)
          have e2 : I2 = M2 I := e2
          subst e2
          refine EV.o r_X11_hide_48 (icN (1) (v := 1)) ?_
          refine EV.l (lv' := [(0, _), (1, _), (2, _), (3, _)]) r_X11_hide_49 rfl ?_
          refine EV.o r_X11_hide_50 (icN (0) (v := 0)) ?_
          refine EV.l (lv' := [(0, _), (1, _), (2, _), (3, _), (4, _)]) r_X11_hide_51 rfl ?_
          have L53 : ∀ y_ : Nat × (Nat → Nat → Int32), (fun y => (y.1 ≤ κ.nb ∧ (∀ j, j < 10 * y.1 → y.2 130 j = nI (cvd κ l η j)) ∧ (∀ o, o ≠ 106 → o ≠ 121 → o ≠ 122 → o ≠ 130 → o ≠ 131 → y.2 o = M2 I o) ∧ ∀ j, j ≠ 50 → y.2 106 j = M2 I 106 j) → EV none M_X11_hide d' 53 [(0, .ref 106), (1, .int (nI wt)), (2, .int (nI 0)), (3, .int (nI (10 ^ y.1))), (4, .int (nI y.1))] [] (hp y.2 J) (QI J (fun v I' => v = opI (pm1 (hid κ l η wt)) ∧ FR I I' ∧ I' 106 0 = nI 0))) y_ := by
            refine ev_loop (fun y => κ.nb - y.1) ?_
            intro ⟨b, I1⟩ ih53 hx53
            try dsimp only at ih53
            try dsimp only at hx53
            try dsimp only
            obtain ⟨bl, cv3, hfo, hfj⟩ := hx53
            have mc3 := (M2_mc mc_).fr9 (I' := I1) (fun j hj => hfj j (fun e => by subst e; exact absurd hj (by decide))) (fun x h1 h2 => hfo x (by omega) (by omega) (by omega) (by omega) (by omega))
            have mr3 := MR.fr (I' := I1) (M2_mr mr cb) (hfo 126 (by decide) (by decide) (by decide) (by decide) (by decide))
            have ml3 := ML.fr9 (I' := I1) (M2_ml ml_) (hfj 32 (by decide)) (hfo 119 (by decide) (by decide) (by decide) (by decide) (by decide)) (hfo 120 (by decide) (by decide) (by decide) (by decide) (by decide))
            refine EV.l (lv' := [(0, _), (1, _), (2, _), (3, _), (4, _)]) r_X11_hide_53 rfl ?_
            refine EV.l (lv' := [(0, _), (1, _), (2, _), (3, _), (4, _)]) r_X11_hide_55 rfl ?_
            refine EV.getV r_X11_hide_56 la_106 (mc3.nb) ?_
            refine EV.n2_ge r_X11_hide_59 (fun h59 => ?_) (fun h59 => ?_)
            · -- 59 t
              obtain rfl : b = κ.nb := by omega
              refine EV.l (lv' := [(0, _), (1, _), (2, _), (3, _), (4, _)]) r_X11_hide_110 rfl ?_
              refine EV.o r_X11_hide_111 (icZ (-1)) ?_
              refine EV.pIn r_X11_hide_112 la_106 (fun I6 e6 => ?_)
              refine EV.o r_X11_hide_115 (icZ (-1)) ?_
              refine EV.l (lv' := [(0, _), (1, _), (2, _), (3, _), (4, _)]) r_X11_hide_116 rfl ?_
              refine EV.o r_X11_hide_118 (icN (0) (v := 0)) ?_
              refine EV.l (lv' := [(0, _), (1, _), (2, _), (3, _), (4, _), (5, _)]) r_X11_hide_119 rfl ?_
              have L121 : ∀ y_ : Nat × (Nat → Nat → Int32), (fun y => (y.1 ≤ 10 ^ κ.nb ∧ y.2 106 50 = opI (pm1 (itr (upN κ l η wt) y.1 none)) ∧ (∀ j, j < 10 * κ.nb → y.2 130 j = nI (cvd κ l η j)) ∧ (∀ o, o ≠ 106 → o ≠ 121 → o ≠ 122 → o ≠ 130 → o ≠ 131 → y.2 o = M2 I o) ∧ ∀ j, j ≠ 50 → y.2 106 j = M2 I 106 j) → EV none M_X11_hide d' 121 [(0, .ref 106), (1, .int (nI wt)), (2, .int (nI 0)), (3, .int (nI (10 ^ κ.nb))), (4, .int (opI (pm2 (itr (upN κ l η wt) y.1 none)))), (5, .int (nI y.1))] [] (hp y.2 J) (QI J (fun v I' => v = opI (pm1 (hid κ l η wt)) ∧ FR I I' ∧ I' 106 0 = nI 0))) y_ := by
                refine ev_loop (fun y => 10 ^ κ.nb - y.1) ?_
                intro ⟨x, I5⟩ ih121 hx121
                try dsimp only at ih121
                try dsimp only at hx121
                try dsimp only
                obtain ⟨xl, st3, cv3, hfo, hfj⟩ := hx121
                have p10 := pow10_le bnb
                have mc3 := (M2_mc mc_).fr9 (I' := I5) (fun j hj => hfj j (fun e => by subst e; exact absurd hj (by decide))) (fun x h1 h2 => hfo x (by omega) (by omega) (by omega) (by omega) (by omega))
                have mr3 := MR.fr (I' := I5) (M2_mr mr cb) (hfo 126 (by decide) (by decide) (by decide) (by decide) (by decide))
                have ml3 := ML.fr9 (I' := I5) (M2_ml ml_) (hfj 32 (by decide)) (hfo 119 (by decide) (by decide) (by decide) (by decide) (by decide)) (hfo 120 (by decide) (by decide) (by decide) (by decide) (by decide))
                refine EV.l (lv' := [(0, _), (1, _), (2, _), (3, _), (4, _), (5, _)]) r_X11_hide_121 rfl ?_
                refine EV.l (lv' := [(0, _), (1, _), (2, _), (3, _), (4, _), (5, _)]) r_X11_hide_123 rfl ?_
                refine EV.n2_ge r_X11_hide_124 (fun h124 => ?_) (fun h124 => ?_)
                · -- 124 t
                  refine EV.l (lv' := [(0, _), (1, _), (2, _), (3, _), (4, _), (5, _)]) r_X11_hide_183 rfl ?_
                  refine EV.n0_ne r_X11_hide_184 (fun h184 => ?_) (fun h184 => ?_)
                  · omega
                  · -- 184 f
                    refine EV.l (lv' := [(0, _), (1, _), (2, _), (3, _), (4, _), (5, _)]) r_X11_hide_187 rfl ?_
                    refine EV.gI r_X11_hide_188 la_106 ?_
                    refine EV.g r_X11_hide_191 ?_
                    exact EV.ri r_X11_hide_196 (⟨by rw [hid_eq, show 10 ^ κ.nb = x by omega]; exact st3, FR_hd hfo hfj⟩)
                · -- 124 f
                  refine EV.l (lv' := [(0, _), (1, _), (2, _), (3, _), (4, _), (5, _)]) r_X11_hide_127 rfl ?_
                  refine EV.l (lv' := [(0, _), (1, _), (2, _), (3, _), (4, _), (5, _)]) r_X11_hide_128 rfl ?_
                  refine EV.l (lv' := [(0, _), (1, _), (2, _), (3, _), (4, _), (5, _)]) r_X11_hide_129 rfl ?_
                  refine EV.ci r_X11_hide_131 (aV2 mt_247 la_106) (m_isHid mc3 cb mr3 hb_ cv3 (by omega) (by omega) st3 (stB_itr2 _ _ (fun k s _ q => stB_up cb q) (fun p e => nomatch e)) (by omega)) (fun v I3 h3 => ?_)
                  obtain ⟨e, h5a, ldq, g1, g2⟩ := h3
                  subst e
                  have fo5 : ∀ o, o ≠ 106 → o ≠ 121 → o ≠ 122 → o ≠ 130 → o ≠ 131 → I3 o = M2 I o := fun o a1 a2 a3 a4 a5 => (g1 o a1 a5).trans (hfo o a1 a2 a3 a4 a5)
                  have fj5 : ∀ j, j ≠ 50 → I3 106 j = M2 I 106 j := fun j hj => (g2 j hj).trans (hfj j hj)
                  have mc5 := (M2_mc mc_).fr9 (I' := I3) (fun j hj => fj5 j (fun e => by subst e; exact absurd hj (by decide))) (fun x h1 h2 => fo5 x (by omega) (by omega) (by omega) (by omega) (by omega))
                  refine EV.b0_ne r_X11_hide_134 (fun h134 => ?_) (fun h134 => ?_)
                  · -- 134 t
                    refine EV.o r_X11_hide_140 (icN (0) (v := 0)) ?_
                    refine EV.l (lv' := [(0, _), (1, _), (2, _), (3, _), (4, _), (5, _)]) r_X11_hide_141 rfl ?_
                    refine EV.l (lv' := [(0, _), (1, _), (2, _), (3, _), (4, _), (5, _)]) r_X11_hide_143 rfl ?_
                    refine EV.getV r_X11_hide_144 la_106 (mc5.nb) ?_
                    refine EV.o r_X11_hide_147 (icN (1) (v := 1)) ?_
                    refine EV.o r_X11_hide_148 (isubNZ) ?_
                    refine EV.l (lv' := [(0, _), (1, _), (2, _), (3, _), (4, _), (5, _), (6, _)]) r_X11_hide_149 rfl ?_
                    have L151 : ∀ y_ : Nat, (fun i => i ≤ κ.nb → EV none M_X11_hide d' 151 [(0, .ref 106), (1, .int (nI wt)), (2, .int (nI 0)), (3, .int (nI (10 ^ κ.nb))), (4, .int (nI (dg1 x i))), (5, .int (nI x)), (6, .int (zI ((κ.nb : Int) - 1 - (i : Int))))] [] (hp I3 J) (QI J (fun v I' => v = opI (pm1 (hid κ l η wt)) ∧ FR I I' ∧ I' 106 0 = nI 0))) y_ := by
                      refine ev_loop (fun i => κ.nb - i) ?_
                      intro i ih151 hx151
                      try dsimp only at ih151
                      try dsimp only at hx151
                      try dsimp only
                      refine EV.l (lv' := [(0, _), (1, _), (2, _), (3, _), (4, _), (5, _), (6, _)]) r_X11_hide_151 rfl ?_
                      refine EV.z0_lt r_X11_hide_153 (fun h153 => ?_) (fun h153 => ?_)
                      · -- 153 t
                        obtain rfl : i = κ.nb := by omega
                        refine EV.l (lv' := [(0, _), (1, _), (2, _), (3, _), (4, _), (5, _), (6, _)]) r_X11_hide_177 rfl ?_
                        rw [inc_nI]
                        refine EV.g r_X11_hide_180 ?_
                        refine EV.fg (lv' := [(0, _), (1, _), (2, _), (3, _), (4, _), (5, _)]) r_X11_hide_121 rfl rfl rfl ?_
                        refine EV.sub ?_ rfl ?_ (ih121 (x + 1, I3) ?_ ?_)
                        · (try dsimp only) <;> (rw [up_s]; first | ((rw [okN_no (by assumption)]) <;> rfl) | ((rw [okN_up (by assumption)]) <;> rfl))
                        · (try dsimp only) <;> (rfl)
                        · (try dsimp only) <;> (omega)
                        · (try dsimp only) <;> (exact ⟨by omega, by rw [up_s]; exact h5a, fun j hj => by rw [g1 130 (by decide) (by decide)]; exact cv3 j hj, fo5, fj5⟩)
                      · -- 153 f
                        rw [zj (by omega)]
                        refine EV.o r_X11_hide_156 (bpN (10) 10) ?_
                        refine EV.l (lv' := [(0, _), (1, _), (2, _), (3, _), (4, _), (5, _), (6, _)]) r_X11_hide_158 rfl ?_
                        refine EV.o r_X11_hide_160 imulN ?_
                        refine EV.l (lv' := [(0, _), (1, _), (2, _), (3, _), (4, _), (5, _), (6, _)]) r_X11_hide_161 rfl ?_
                        refine EV.gR r_X11_hide_162 la_106 ?_
                        refine EV.l (lv' := [(0, _), (1, _), (2, _), (3, _), (4, _), (5, _), (6, _)]) r_X11_hide_165 rfl ?_
                        refine EV.iaN r_X11_hide_167 la_131 (ldq _ (by omega)) ?_
                        refine EV.o r_X11_hide_168 iaddN ?_
                        refine EV.l (lv' := [(0, _), (1, _), (2, _), (3, _), (4, _), (5, _), (6, _)]) r_X11_hide_169 rfl ?_
                        refine EV.l (lv' := [(0, _), (1, _), (2, _), (3, _), (4, _), (5, _), (6, _)]) r_X11_hide_171 rfl ?_
                        rw [dec_nZ]
                        refine EV.g r_X11_hide_174 ?_
                        refine EV.sub ?_ rfl ?_ (ih151 (i + 1) ?_ ?_)
                        · rw [show (((κ.nb - 1 - i : Nat) : Int) - 1) = (κ.nb : Int) - 1 - ((i + 1 : Nat) : Int) by omega]; rfl
                        · rfl
                        · omega
                        · omega
                    have h0 := L151 (0)
                    try dsimp only at h0
                    refine EV.sub ?_ rfl ?_ (h0 ?_)
                    · rw [show ((κ.nb : Int) - ((1 : Nat) : Int)) = (κ.nb : Int) - 1 - ((0 : Nat) : Int) by omega]; rfl
                    · rfl
                    · omega
                  · -- 134 f
                    refine EV.g r_X11_hide_137 ?_
                    refine EV.l (lv' := [(0, _), (1, _), (2, _), (3, _), (4, _), (5, _)]) r_X11_hide_177 rfl ?_
                    rw [inc_nI]
                    refine EV.g r_X11_hide_180 ?_
                    refine EV.sub ?_ rfl ?_ (ih121 (x + 1, I3) ?_ ?_)
                    · (try dsimp only) <;> (rw [up_s]; first | ((rw [okN_no (by assumption)]) <;> rfl) | ((rw [okN_up (by assumption)]) <;> rfl))
                    · (try dsimp only) <;> (rfl)
                    · (try dsimp only) <;> (omega)
                    · (try dsimp only) <;> (exact ⟨by omega, by rw [up_s]; exact h5a, fun j hj => by rw [g1 130 (by decide) (by decide)]; exact cv3 j hj, fo5, fj5⟩)
              have h0 := L121 ((0, I6))
              try dsimp only at h0
              refine EV.sub ?_ rfl ?_ (h0 ?_)
              · (try dsimp only) <;> (rfl)
              · (try dsimp only) <;> (rfl)
              · (try dsimp only) <;> (subst e6; exact ⟨Nat.zero_le _, wr_same, fun j hj => by rw [wr_row (by decide)]; exact cv3 j hj, fun o a1 a2 a3 a4 a5 => (wr_row a1).trans (hfo o a1 a2 a3 a4 a5), fun j hj => (wr_ne (Or.inr hj)).trans (hfj j hj)⟩)
            · -- 59 f
              refine EV.o r_X11_hide_62 (icN (0) (v := 0)) ?_
              refine EV.l (lv' := [(0, _), (1, _), (2, _), (3, _), (4, _), (5, _)]) r_X11_hide_63 rfl ?_
              have L65 : ∀ y_ : Nat × (Nat → Nat → Int32), (fun y => (y.1 ≤ 10 ∧ (∀ j, j < 10 * b + y.1 → y.2 130 j = nI (cvd κ l η j)) ∧ (∀ o, o ≠ 106 → o ≠ 121 → o ≠ 122 → o ≠ 130 → o ≠ 131 → y.2 o = M2 I o) ∧ ∀ j, j ≠ 50 → y.2 106 j = M2 I 106 j) → EV none M_X11_hide d' 65 [(0, .ref 106), (1, .int (nI wt)), (2, .int (nI 0)), (3, .int (nI (10 ^ b))), (4, .int (nI b)), (5, .int (nI y.1))] [] (hp y.2 J) (QI J (fun v I' => v = opI (pm1 (hid κ l η wt)) ∧ FR I I' ∧ I' 106 0 = nI 0))) y_ := by
                refine ev_loop (fun y => 10 - y.1) ?_
                intro ⟨k, I7⟩ ih65 hx65
                try dsimp only at ih65
                try dsimp only at hx65
                try dsimp only
                obtain ⟨kl, cv7, hfo, hfj⟩ := hx65
                have mc3 := (M2_mc mc_).fr9 (I' := I7) (fun j hj => hfj j (fun e => by subst e; exact absurd hj (by decide))) (fun x h1 h2 => hfo x (by omega) (by omega) (by omega) (by omega) (by omega))
                have mr3 := MR.fr (I' := I7) (M2_mr mr cb) (hfo 126 (by decide) (by decide) (by decide) (by decide) (by decide))
                have ml3 := ML.fr9 (I' := I7) (M2_ml ml_) (hfj 32 (by decide)) (hfo 119 (by decide) (by decide) (by decide) (by decide) (by decide)) (hfo 120 (by decide) (by decide) (by decide) (by decide) (by decide))
                refine EV.l (lv' := [(0, _), (1, _), (2, _), (3, _), (4, _), (5, _)]) r_X11_hide_65 rfl ?_
                refine EV.o r_X11_hide_67 (bpN (10) 10) ?_
                refine EV.n2_ge r_X11_hide_69 (fun h69 => ?_) (fun h69 => ?_)
                · -- 69 t
                  obtain rfl : k = 10 := by omega
                  refine EV.l (lv' := [(0, _), (1, _), (2, _), (3, _), (4, _), (5, _)]) r_X11_hide_99 rfl ?_
                  refine EV.o r_X11_hide_100 (bpN (10) 10) ?_
                  refine EV.o r_X11_hide_102 imulN ?_
                  refine EV.l (lv' := [(0, _), (1, _), (2, _), (3, _), (4, _), (5, _)]) r_X11_hide_103 rfl ?_
                  refine EV.l (lv' := [(0, _), (1, _), (2, _), (3, _), (4, _), (5, _)]) r_X11_hide_104 rfl ?_
                  rw [inc_nI]
                  refine EV.g r_X11_hide_107 ?_
                  refine EV.fg (lv' := [(0, _), (1, _), (2, _), (3, _), (4, _)]) r_X11_hide_53 rfl rfl rfl ?_
                  refine EV.sub ?_ rfl ?_ (ih53 (b + 1, I7) ?_ ?_)
                  · (try dsimp only) <;> (rw [pow10_s])
                  · (try dsimp only) <;> (rfl)
                  · (try dsimp only) <;> (omega)
                  · (try dsimp only) <;> (exact ⟨by omega, fun j hj => cv7 j (by omega), hfo, hfj⟩)
                · -- 69 f
                  refine EV.l (lv' := [(0, _), (1, _), (2, _), (3, _), (4, _), (5, _)]) r_X11_hide_72 rfl ?_
                  refine EV.gR r_X11_hide_73 la_106 ?_
                  refine EV.o r_X11_hide_76 (bpN (10) 10) ?_
                  refine EV.l (lv' := [(0, _), (1, _), (2, _), (3, _), (4, _), (5, _)]) r_X11_hide_78 rfl ?_
                  refine EV.o r_X11_hide_80 imulN ?_
                  refine EV.l (lv' := [(0, _), (1, _), (2, _), (3, _), (4, _), (5, _)]) r_X11_hide_81 rfl ?_
                  refine EV.o r_X11_hide_83 iaddN ?_
                  refine EV.l (lv' := [(0, _), (1, _), (2, _), (3, _), (4, _), (5, _)]) r_X11_hide_84 rfl ?_
                  refine EV.l (lv' := [(0, _), (1, _), (2, _), (3, _), (4, _), (5, _)]) r_X11_hide_85 rfl ?_
                  refine EV.l (lv' := [(0, _), (1, _), (2, _), (3, _), (4, _), (5, _)]) r_X11_hide_87 rfl ?_
                  refine EV.ci r_X11_hide_89 (aV2 mt_219 la_106) (m_overBy mc3 cb mr3 hb_ ml3 lb (by omega) (by omega) (by omega)) (fun v I4 h4 => ?_)
                  obtain ⟨e, fr4⟩ := h4
                  subst e
                  rw [show nI (ovr κ l η b k) = nI (cvd κ l η (10 * b + k)) from congrArg nI (by unfold cvd; rw [show (10 * b + k) / 10 = b by omega, show (10 * b + k) % 10 = k by omega])]
                  refine EV.iaSn r_X11_hide_92 la_130 (fun I8 e8 => ?_)
                  refine EV.l (lv' := [(0, _), (1, _), (2, _), (3, _), (4, _), (5, _)]) r_X11_hide_93 rfl ?_
                  rw [inc_nI]
                  refine EV.g r_X11_hide_96 ?_
                  refine EV.sub ?_ rfl ?_ (ih65 (k + 1, I8) ?_ ?_)
                  · (try dsimp only) <;> (rfl)
                  · (try dsimp only) <;> (rfl)
                  · (try dsimp only) <;> (omega)
                  · (try dsimp only) <;> (subst e8; exact ⟨by omega, wr_ext (f := fun j => nI (cvd κ l η j)) (fun j hj => by rw [fr4 130 (by decide) (by decide)]; exact cv7 j hj), fun o a1 a2 a3 a4 a5 => (wr_row a4).trans ((fr4 o a2 a3).trans (hfo o a1 a2 a3 a4 a5)), fun j hj => by rw [wr_row (by decide), fr4 106 (by decide) (by decide)]; exact hfj j hj⟩)
              have h0 := L65 ((0, I1))
              try dsimp only at h0
              refine EV.sub ?_ rfl ?_ (h0 ?_)
              · (try dsimp only) <;> (rfl)
              · (try dsimp only) <;> (rfl)
              · (try dsimp only) <;> (exact ⟨Nat.zero_le _, cv3, hfo, hfj⟩)
          have h0 := L53 ((0, M2 I))
          try dsimp only at h0
          refine EV.sub ?_ rfl ?_ (h0 ?_)
          · (try dsimp only) <;> (rfl)
          · (try dsimp only) <;> (rfl)
          · (try dsimp only) <;> (exact ⟨Nat.zero_le _, fun j hj => by omega, fun _ _ _ _ _ _ => rfl, fun _ _ => rfl⟩)
        · omega
